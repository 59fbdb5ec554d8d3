set_option maxRecDepth 20000 in
theorem lp_Mod_added_65 {G : jG} {P : jR → va_W → Prop} (ws : va_W) (x1 : Int32) (x2 : Int32) (x5 : Int32) (x10 : Int32) : ∀ (n : Nat) (x13 : Int32) (r : Int32), L_Mod_added_65 x5 x10 n x13 = some r → J G m_Mod_added 0 0 0 P 86 [(1, .int x1), (2, .int x2), (3, .int x5), (4, .int x10), (5, .int r)] [] ws 0 0 → J G m_Mod_added 0 0 0 P 65 [(1, .int x1), (2, .int x2), (3, .int x5), (4, .int x10), (5, .int x13)] [] ws 0 0 := by
  intro n
  induction n with
  | zero =>
    intro x13 r H
    cases (show none = some r from H)
  | succ n ih =>
    intro x13 r H kx
    have H : (
    if (jrem (x13 * x10) 43) = (jrem x5 43) then
      some x13
    else
      jlet (x13 + 1) fun x15 =>
      L_Mod_added_65 x5 x10 n x15) = some r := H
    refine j_iload (pc := 65) 4 (jd k_Mod_added 44 rfl) rfl ?_
    refine j_iload (pc := 67) 3 (jd k_Mod_added 45 rfl) rfl ?_
    refine j_imul (pc := 69) (jd k_Mod_added 46 rfl) ?_
    refine j_bipush (pc := 70) (v := 43) (jd k_Mod_added 47 rfl) (by decide) ?_
    refine j_irem (pc := 72) (jd k_Mod_added 48 rfl) (by decide) ?_
    refine j_iload_n (pc := 73) 2 (jd k_Mod_added 49 rfl) rfl ?_
    refine j_bipush (pc := 74) (v := 43) (jd k_Mod_added 50 rfl) (by decide) ?_
    refine j_irem (pc := 76) (jd k_Mod_added 51 rfl) (by decide) ?_
    refine j_icmp_eq (pc := 77) (tgt := 86) (jd k_Mod_added 52 rfl) rfl (fun h14 => ?_) (fun h14 => ?_)
    · rw [if_pos h14] at H
      cases H
      exact kx
    · rw [if_neg h14] at H
      obtain ⟨x15, e16, H⟩ := olet H
      refine j_iinc (pc := 80) (lv' := [(1, .int x1), (2, .int x2), (3, .int x5), (4, .int x10), (5, .int x15)]) 4 (jd k_Mod_added 53 rfl) rfl e16 rfl (Nat.le_of_ble_eq_true rfl) rfl ?_
      refine j_goto (pc := 83) (tgt := 65) (jd k_Mod_added 54 rfl) rfl ?_
      exact ih x15 _ H kx

set_option maxRecDepth 20000 in
theorem c_Mod_added (G : jG) (ws : va_W) (p0 : Int32) (r : Int32) (H : f_Mod_added p0 = some r) : jCon G m_Mod_added y_Mod_added 0 0 0 [.int p0] ws (jEq (some (.int r)) ws) := by
  refine jCon.of (by decide +kernel) rfl rfl rfl (Nat.le_of_ble_eq_true rfl) rfl ?_
  have H : (
  jlet (p0 / 64) fun x1 =>
  jlet (jrem p0 64) fun x2 =>
  Option.bind (α := Int32) (
    if ¬ x1 = 2 then
      some ((x2 - 12) + 43)
    else
      if ¬ x2 = 12 then
        some ((x2 - 12) + 43)
      else
        some ((3 * x1) * x1)) fun x5 =>
  Option.bind (α := Int32) (
    if ¬ x1 = 2 then
      some ((x1 - 2) + 43)
    else
      if ¬ x2 = 12 then
        some ((x1 - 2) + 43)
      else
        some (2 * x2)) fun x10 =>
  Option.bind (L_Mod_added_65 x5 x10 jF 0) fun x17 =>
  jlet (jrem ((((x17 * x17) - x1) - 2) + 86) 43) fun x19 =>
  jlet (jrem (((x17 * ((x1 - x19) + 43)) - x2) + 43) 43) fun x20 =>
  some ((64 * x19) + x20)) = some r := H
  generalize hP9 : jEq (some (.int r)) ws = P
  refine j_iload_n (pc := 0) 0 (jd k_Mod_added 0 rfl) rfl ?_
  refine j_bipush (pc := 1) (v := 64) (jd k_Mod_added 1 rfl) (by decide) ?_
  refine j_idiv (pc := 3) (jd k_Mod_added 2 rfl) (by decide) ?_
  obtain ⟨x1, e24, H⟩ := olet H
  refine j_topi e24 ?_
  refine j_istore_n (pc := 4) (lv' := [(0, .int p0), (1, .int x1)]) (jd k_Mod_added 3 rfl) rfl (Nat.le_of_ble_eq_true rfl) rfl ?_
  refine j_iload_n (pc := 5) 0 (jd k_Mod_added 4 rfl) rfl ?_
  refine j_bipush (pc := 6) (v := 64) (jd k_Mod_added 5 rfl) (by decide) ?_
  refine j_irem (pc := 8) (jd k_Mod_added 6 rfl) (by decide) ?_
  obtain ⟨x2, e23, H⟩ := olet H
  refine j_topi e23 ?_
  refine j_istore_n (pc := 9) (lv' := [(0, .int p0), (1, .int x1), (2, .int x2)]) (jd k_Mod_added 7 rfl) rfl (Nat.le_of_ble_eq_true rfl) rfl ?_
  refine j_iload_n (pc := 10) 1 (jd k_Mod_added 8 rfl) rfl ?_
  refine j_iconst (pc := 11) (v := 2) (jd k_Mod_added 9 rfl) (by decide) ?_
  obtain ⟨x5, h6, H⟩ := obnd H
  have K7 : J G m_Mod_added 0 0 0 P 36 [(1, .int x1), (2, .int x2)] [.int x5] ws 0 0 := by
    refine j_istore_n (pc := 36) (lv' := [(1, .int x1), (2, .int x2), (3, .int x5)]) (jd k_Mod_added 25 rfl) rfl (Nat.le_of_ble_eq_true rfl) rfl ?_
    refine j_iload_n (pc := 37) 0 (jd k_Mod_added 26 rfl) rfl ?_
    refine j_iconst (pc := 38) (v := 2) (jd k_Mod_added 27 rfl) (by decide) ?_
    obtain ⟨x10, h11, H⟩ := obnd H
    have K12 : J G m_Mod_added 0 0 0 P 60 [(1, .int x1), (2, .int x2), (3, .int x5)] [.int x10] ws 0 0 := by
      refine j_istore (pc := 60) (lv' := [(1, .int x1), (2, .int x2), (3, .int x5), (4, .int x10)]) (jd k_Mod_added 41 rfl) rfl (Nat.le_of_ble_eq_true rfl) rfl ?_
      refine j_iconst (pc := 62) (v := 0) (jd k_Mod_added 42 rfl) (by decide) ?_
      refine j_istore (pc := 63) (lv' := [(1, .int x1), (2, .int x2), (3, .int x5), (4, .int x10), (5, .int 0)]) (jd k_Mod_added 43 rfl) rfl (Nat.le_of_ble_eq_true rfl) rfl ?_
      obtain ⟨x17, h18, H⟩ := obnd H
      refine lp_Mod_added_65 ws x1 x2 x5 x10 jF 0 _ h18 ?_
      refine j_pick (lv' := [(1, .int x1), (2, .int x2), (5, .int x17)]) [0, 1, 4] rfl ?_
      refine j_iload (pc := 86) 2 (jd k_Mod_added 55 rfl) rfl ?_
      refine j_iload (pc := 88) 2 (jd k_Mod_added 56 rfl) rfl ?_
      refine j_imul (pc := 90) (jd k_Mod_added 57 rfl) ?_
      refine j_iload_n (pc := 91) 0 (jd k_Mod_added 58 rfl) rfl ?_
      refine j_isub (pc := 92) (jd k_Mod_added 59 rfl) ?_
      refine j_iconst (pc := 93) (v := 2) (jd k_Mod_added 60 rfl) (by decide) ?_
      refine j_isub (pc := 94) (jd k_Mod_added 61 rfl) ?_
      refine j_bipush (pc := 95) (v := 86) (jd k_Mod_added 62 rfl) (by decide) ?_
      refine j_iadd (pc := 97) (jd k_Mod_added 63 rfl) ?_
      refine j_bipush (pc := 98) (v := 43) (jd k_Mod_added 64 rfl) (by decide) ?_
      refine j_irem (pc := 100) (jd k_Mod_added 65 rfl) (by decide) ?_
      obtain ⟨x19, e22, H⟩ := olet H
      refine j_topi e22 ?_
      refine j_istore (pc := 101) (lv' := [(1, .int x1), (2, .int x2), (5, .int x17), (6, .int x19)]) (jd k_Mod_added 66 rfl) rfl (Nat.le_of_ble_eq_true rfl) rfl ?_
      refine j_iload (pc := 103) 2 (jd k_Mod_added 67 rfl) rfl ?_
      refine j_iload_n (pc := 105) 0 (jd k_Mod_added 68 rfl) rfl ?_
      refine j_iload (pc := 106) 3 (jd k_Mod_added 69 rfl) rfl ?_
      refine j_isub (pc := 108) (jd k_Mod_added 70 rfl) ?_
      refine j_bipush (pc := 109) (v := 43) (jd k_Mod_added 71 rfl) (by decide) ?_
      refine j_iadd (pc := 111) (jd k_Mod_added 72 rfl) ?_
      refine j_imul (pc := 112) (jd k_Mod_added 73 rfl) ?_
      refine j_iload_n (pc := 113) 1 (jd k_Mod_added 74 rfl) rfl ?_
      refine j_isub (pc := 114) (jd k_Mod_added 75 rfl) ?_
      refine j_bipush (pc := 115) (v := 43) (jd k_Mod_added 76 rfl) (by decide) ?_
      refine j_iadd (pc := 117) (jd k_Mod_added 77 rfl) ?_
      refine j_bipush (pc := 118) (v := 43) (jd k_Mod_added 78 rfl) (by decide) ?_
      refine j_irem (pc := 120) (jd k_Mod_added 79 rfl) (by decide) ?_
      obtain ⟨x20, e21, H⟩ := olet H
      refine j_topi e21 ?_
      refine j_istore (pc := 121) (lv' := [(1, .int x1), (2, .int x2), (5, .int x17), (6, .int x19), (7, .int x20)]) (jd k_Mod_added 80 rfl) rfl (Nat.le_of_ble_eq_true rfl) rfl ?_
      refine j_bipush (pc := 123) (v := 64) (jd k_Mod_added 81 rfl) (by decide) ?_
      refine j_iload (pc := 125) 3 (jd k_Mod_added 82 rfl) rfl ?_
      refine j_imul (pc := 127) (jd k_Mod_added 83 rfl) ?_
      refine j_iload (pc := 128) 4 (jd k_Mod_added 84 rfl) rfl ?_
      refine j_iadd (pc := 130) (jd k_Mod_added 85 rfl) ?_
      cases H
      subst hP9
      exact j_iret (pc := 131) (jd k_Mod_added 86 rfl) rfl rfl ⟨rfl, rfl⟩
    have H := h11
    refine j_icmp_ne (pc := 39) (tgt := 54) (jd k_Mod_added 28 rfl) rfl (fun h8 => ?_) (fun h8 => ?_)
    · rw [if_pos h8] at H
      refine j_iload_n (pc := 54) 0 (jd k_Mod_added 36 rfl) rfl ?_
      refine j_iconst (pc := 55) (v := 2) (jd k_Mod_added 37 rfl) (by decide) ?_
      refine j_isub (pc := 56) (jd k_Mod_added 38 rfl) ?_
      refine j_bipush (pc := 57) (v := 43) (jd k_Mod_added 39 rfl) (by decide) ?_
      refine j_iadd (pc := 59) (jd k_Mod_added 40 rfl) ?_
      cases H
      exact K12
    · rw [if_neg (not_not_intro h8)] at H
      refine j_iload_n (pc := 42) 1 (jd k_Mod_added 29 rfl) rfl ?_
      refine j_bipush (pc := 43) (v := 12) (jd k_Mod_added 30 rfl) (by decide) ?_
      refine j_icmp_ne (pc := 45) (tgt := 54) (jd k_Mod_added 31 rfl) rfl (fun h9 => ?_) (fun h9 => ?_)
      · rw [if_pos h9] at H
        refine j_iload_n (pc := 54) 0 (jd k_Mod_added 36 rfl) rfl ?_
        refine j_iconst (pc := 55) (v := 2) (jd k_Mod_added 37 rfl) (by decide) ?_
        refine j_isub (pc := 56) (jd k_Mod_added 38 rfl) ?_
        refine j_bipush (pc := 57) (v := 43) (jd k_Mod_added 39 rfl) (by decide) ?_
        refine j_iadd (pc := 59) (jd k_Mod_added 40 rfl) ?_
        cases H
        exact K12
      · rw [if_neg (not_not_intro h9)] at H
        refine j_iconst (pc := 48) (v := 2) (jd k_Mod_added 32 rfl) (by decide) ?_
        refine j_iload_n (pc := 49) 1 (jd k_Mod_added 33 rfl) rfl ?_
        refine j_imul (pc := 50) (jd k_Mod_added 34 rfl) ?_
        refine j_goto (pc := 51) (tgt := 60) (jd k_Mod_added 35 rfl) rfl ?_
        cases H
        exact K12
  have H := h6
  refine j_icmp_ne (pc := 12) (tgt := 29) (jd k_Mod_added 10 rfl) rfl (fun h3 => ?_) (fun h3 => ?_)
  · rw [if_pos h3] at H
    refine j_iload_n (pc := 29) 2 (jd k_Mod_added 20 rfl) rfl ?_
    refine j_bipush (pc := 30) (v := 12) (jd k_Mod_added 21 rfl) (by decide) ?_
    refine j_isub (pc := 32) (jd k_Mod_added 22 rfl) ?_
    refine j_bipush (pc := 33) (v := 43) (jd k_Mod_added 23 rfl) (by decide) ?_
    refine j_iadd (pc := 35) (jd k_Mod_added 24 rfl) ?_
    cases H
    exact j_pick [1, 2] rfl K7
  · rw [if_neg (not_not_intro h3)] at H
    refine j_iload_n (pc := 15) 2 (jd k_Mod_added 11 rfl) rfl ?_
    refine j_bipush (pc := 16) (v := 12) (jd k_Mod_added 12 rfl) (by decide) ?_
    refine j_icmp_ne (pc := 18) (tgt := 29) (jd k_Mod_added 13 rfl) rfl (fun h4 => ?_) (fun h4 => ?_)
    · rw [if_pos h4] at H
      refine j_iload_n (pc := 29) 2 (jd k_Mod_added 20 rfl) rfl ?_
      refine j_bipush (pc := 30) (v := 12) (jd k_Mod_added 21 rfl) (by decide) ?_
      refine j_isub (pc := 32) (jd k_Mod_added 22 rfl) ?_
      refine j_bipush (pc := 33) (v := 43) (jd k_Mod_added 23 rfl) (by decide) ?_
      refine j_iadd (pc := 35) (jd k_Mod_added 24 rfl) ?_
      cases H
      exact j_pick [1, 2] rfl K7
    · rw [if_neg (not_not_intro h4)] at H
      refine j_iconst (pc := 21) (v := 3) (jd k_Mod_added 14 rfl) (by decide) ?_
      refine j_iload_n (pc := 22) 1 (jd k_Mod_added 15 rfl) rfl ?_
      refine j_imul (pc := 23) (jd k_Mod_added 16 rfl) ?_
      refine j_iload_n (pc := 24) 1 (jd k_Mod_added 17 rfl) rfl ?_
      refine j_imul (pc := 25) (jd k_Mod_added 18 rfl) ?_
      refine j_goto (pc := 26) (tgt := 36) (jd k_Mod_added 19 rfl) rfl ?_
      cases H
      exact j_pick [1, 2] rfl K7

set_option maxRecDepth 20000 in
theorem c_Mod_thrown (ad : Nat → Nat) (G : jG) (s : jS) (r : Int32) (H : f_Mod_thrown s = some r) : jCon G m_Mod_thrown y_Mod_thrown 0 0 0 [.ref (ad 0)] (mkR ad G s) (jEq (some (.int r)) (mkR ad G s)) := by
  refine jCon.of (by decide +kernel) rfl rfl rfl (Nat.le_of_ble_eq_true rfl) rfl ?_
  have H : (
  some (s 0 0)) = some r := H
  generalize hP9 : jEq (some (.int r)) (mkR ad G s) = P
  refine j_aload_n (pc := 0) 0 (jd k_Mod_thrown 0 rfl) rfl ?_
  refine j_get (pc := 1) (fs := flR ad s) (v := .int (s 0 0)) fl_Mod_170_10 0 (jd k_Mod_thrown 1 rfl) rfl rfl ?_
  cases H
  subst hP9
  exact j_iret (pc := 4) (jd k_Mod_thrown 2 rfl) rfl rfl ⟨rfl, rfl⟩

set_option maxRecDepth 20000 in
theorem c_Mod_field (ad : Nat → Nat) (G : jG) (p0 : Int32) (s : jS) (r : jS) (H : f_Mod_field p0 s = some r) : jCon G m_Mod_field y_Mod_field 0 0 0 [.ref (ad 0), .int p0] (mkR ad G s) (jEq none (mkR ad G r)) := by
  refine jCon.of (by decide +kernel) rfl rfl rfl (Nat.le_of_ble_eq_true rfl) rfl ?_
  have H : (
  Option.bind (α := Int32) (
    if p0 < 0 then
      some 1
    else
      if p0 ≤ 2 then
        some 0
      else
        some 1) fun x3 =>
  jlet (va_up s 0 (fun _ => x3)) fun s6 =>
  if (s6 0 0) ≤ 0 then
    jlet (va_up s6 1 (fun _ => p0)) fun s9 =>
    jlet (va_up s9 2 (fun _ => 0)) fun s11 =>
    some s11
  else
    some s6) = some r := H
  generalize hP9 : jEq none (mkR ad G r) = P
  refine j_aload_n (pc := 0) 0 (jd k_Mod_field 0 rfl) rfl ?_
  refine j_iload_n (pc := 1) 1 (jd k_Mod_field 1 rfl) rfl ?_
  obtain ⟨x3, h4, H⟩ := obnd H
  have K5 : J G m_Mod_field 0 0 0 P 15 [(0, .ref (ad 0)), (1, .int p0)] [.int x3, .ref (ad 0)] (mkR ad G s) 0 0 := by
    obtain ⟨s6, e7, H⟩ := olet H
    refine j_put (pc := 15) (fs := flR ad s) (fp_Mod_170_10 _) 0 (jd k_Mod_field 9 rfl) rfl rfl rfl (Nat.le_of_ble_eq_true rfl) ((wpR_0 ad G s _).trans (congrArg (mkR ad G) e7)) ?_
    refine j_aload_n (pc := 18) 0 (jd k_Mod_field 10 rfl) rfl ?_
    refine j_get (pc := 19) (fs := flR ad s6) (v := .int (s6 0 0)) fl_Mod_170_10 0 (jd k_Mod_field 11 rfl) rfl rfl ?_
    refine j_if_le (pc := 22) (tgt := 26) (jd k_Mod_field 12 rfl) rfl (fun h8 => ?_) (fun h8 => ?_)
    · rw [if_pos h8] at H
      refine j_aload_n (pc := 26) 0 (jd k_Mod_field 14 rfl) rfl ?_
      refine j_iload_n (pc := 27) 1 (jd k_Mod_field 15 rfl) rfl ?_
      obtain ⟨s9, e10, H⟩ := olet H
      refine j_put (pc := 28) (fs := flR ad s6) (fp_Mod_181_10 _) 0 (jd k_Mod_field 16 rfl) rfl rfl rfl (Nat.le_of_ble_eq_true rfl) ((wpR_1 ad G s6 _).trans (congrArg (mkR ad G) e10)) ?_
      refine j_aload_n (pc := 31) 0 (jd k_Mod_field 17 rfl) rfl ?_
      refine j_iconst (pc := 32) (v := 0) (jd k_Mod_field 18 rfl) (by decide) ?_
      obtain ⟨s11, e12, H⟩ := olet H
      refine j_put (pc := 33) (fs := flR ad s9) (fp_Mod_184_10 _) 0 (jd k_Mod_field 19 rfl) rfl rfl rfl (Nat.le_of_ble_eq_true rfl) ((wpR_2 ad G s9 _).trans (congrArg (mkR ad G) e12)) ?_
      cases H
      subst hP9
      exact j_vret (pc := 36) (jd k_Mod_field 20 rfl) rfl ⟨rfl, rfl⟩
    · rw [if_neg h8] at H
      cases H
      subst hP9
      exact j_vret (pc := 25) (jd k_Mod_field 13 rfl) rfl ⟨rfl, rfl⟩
  have H := h4
  refine j_if_lt (pc := 2) (tgt := 10) (jd k_Mod_field 2 rfl) rfl (fun h1 => ?_) (fun h1 => ?_)
  · rw [if_pos h1] at H
    refine j_iconst (pc := 10) (v := 1) (jd k_Mod_field 6 rfl) (by decide) ?_
    refine j_goto (pc := 11) (tgt := 15) (jd k_Mod_field 7 rfl) rfl ?_
    cases H
    exact K5
  · rw [if_neg h1] at H
    refine j_iload_n (pc := 5) 1 (jd k_Mod_field 3 rfl) rfl ?_
    refine j_iconst (pc := 6) (v := 2) (jd k_Mod_field 4 rfl) (by decide) ?_
    refine j_icmp_le (pc := 7) (tgt := 14) (jd k_Mod_field 5 rfl) rfl (fun h2 => ?_) (fun h2 => ?_)
    · rw [if_pos h2] at H
      refine j_iconst (pc := 14) (v := 0) (jd k_Mod_field 8 rfl) (by decide) ?_
      cases H
      exact K5
    · rw [if_neg h2] at H
      refine j_iconst (pc := 10) (v := 1) (jd k_Mod_field 6 rfl) (by decide) ?_
      refine j_goto (pc := 11) (tgt := 15) (jd k_Mod_field 7 rfl) rfl ?_
      cases H
      exact K5

set_option maxRecDepth 20000 in
theorem c_Mod_order (G : jG) (ws : va_W) (p0 : Int32) (r : Int32) (H : f_Mod_order p0 = some r) : jCon G m_Mod_order y_Mod_order 0 0 0 [.int p0] ws (jEq (some (.int r)) ws) := by
  refine jCon.of (by decide +kernel) rfl rfl rfl (Nat.le_of_ble_eq_true rfl) rfl ?_
  have H : (
  Option.bind (α := Int32) (
    if ¬ p0 = 0 then
      if ¬ p0 = 1 then
        some 31
      else
        some 1019
    else
      some 256) fun x3 =>
  some x3) = some r := H
  generalize hP9 : jEq (some (.int r)) ws = P
  refine j_iload_n (pc := 0) 0 (jd k_Mod_order 0 rfl) rfl ?_
  obtain ⟨x3, h4, H⟩ := obnd H
  have K5 : J G m_Mod_order 0 0 0 P 23 [] [.int x3] ws 0 0 := by
    cases H
    subst hP9
    exact j_iret (pc := 23) (jd k_Mod_order 10 rfl) rfl rfl ⟨rfl, rfl⟩
  have H := h4
  refine j_if_ne (pc := 1) (tgt := 10) (jd k_Mod_order 1 rfl) rfl (fun h1 => ?_) (fun h1 => ?_)
  · rw [if_pos h1] at H
    refine j_iload_n (pc := 10) 0 (jd k_Mod_order 4 rfl) rfl ?_
    refine j_iconst (pc := 11) (v := 1) (jd k_Mod_order 5 rfl) (by decide) ?_
    refine j_icmp_ne (pc := 12) (tgt := 21) (jd k_Mod_order 6 rfl) rfl (fun h2 => ?_) (fun h2 => ?_)
    · rw [if_pos h2] at H
      refine j_bipush (pc := 21) (v := 31) (jd k_Mod_order 9 rfl) (by decide) ?_
      cases H
      exact j_pick [] rfl K5
    · rw [if_neg (not_not_intro h2)] at H
      refine j_sipush (pc := 15) (v := 1019) (jd k_Mod_order 7 rfl) (by decide) ?_
      refine j_goto (pc := 18) (tgt := 23) (jd k_Mod_order 8 rfl) rfl ?_
      cases H
      exact j_pick [] rfl K5
  · rw [if_neg (not_not_intro h1)] at H
    refine j_sipush (pc := 4) (v := 256) (jd k_Mod_order 2 rfl) (by decide) ?_
    refine j_goto (pc := 7) (tgt := 23) (jd k_Mod_order 3 rfl) rfl ?_
    cases H
    exact j_pick [] rfl K5

set_option maxRecDepth 20000 in
theorem c_Mod_isElement (G : jG) (ws : va_W) (p0 : Int32) (p1 : Int32) (r : Int32) (H : f_Mod_isElement p0 p1 = some r) : jCon G m_Mod_isElement y_Mod_isElement 1 0 0 [.int p0, .int p1] ws (jEq (some (.int r)) ws) := by
  refine jCon.of (by decide +kernel) rfl rfl rfl (Nat.le_of_ble_eq_true rfl) rfl ?_
  have H : (
  Option.bind (α := Int32) (
    if p1 < 0 then
      some 0
    else
      Option.bind (f_Mod_order p0) fun x2 =>
      if x2 ≤ p1 then
        some 0
      else
        some 1) fun x5 =>
  if jbo x5 then
  some x5
  else none) = some r := H
  generalize hP9 : jEq (some (.int r)) ws = P
  refine j_iload_n (pc := 0) 1 (jd k_Mod_isElement 0 rfl) rfl ?_
  obtain ⟨x5, h6, H⟩ := obnd H
  have K7 : J G m_Mod_isElement 1 0 0 P 17 [] [.int x5] ws 0 0 := by
    obtain ⟨h8, H⟩ := ochk H
    cases H
    subst hP9
    exact j_iret (pc := 17) (jd k_Mod_isElement 9 rfl) rfl (jbo.nar h8) ⟨rfl, rfl⟩
  have H := h6
  refine j_if_lt (pc := 1) (tgt := 16) (jd k_Mod_isElement 1 rfl) rfl (fun h1 => ?_) (fun h1 => ?_)
  · rw [if_pos h1] at H
    refine j_iconst (pc := 16) (v := 0) (jd k_Mod_isElement 8 rfl) (by decide) ?_
    cases H
    exact j_pick [] rfl K7
  · rw [if_neg h1] at H
    refine j_iload_n (pc := 4) 1 (jd k_Mod_isElement 2 rfl) rfl ?_
    refine j_iload_n (pc := 5) 0 (jd k_Mod_isElement 3 rfl) rfl ?_
    obtain ⟨x2, h3, H⟩ := obnd H
    refine jc_S (pc := 6) (st := [.int p1]) (c_Mod_order G _ p0 _ h3) L0_Mod_order w1285 w1286 (jd k_Mod_isElement 4 rfl) rfl (Nat.le_of_ble_eq_true rfl) (by decide) (Nat.le_refl _) (Nat.le_refl _) rfl rfl ?_
    refine j_icmp_ge (pc := 9) (tgt := 16) (jd k_Mod_isElement 5 rfl) rfl (fun h4 => ?_) (fun h4 => ?_)
    · rw [if_pos h4] at H
      refine j_iconst (pc := 16) (v := 0) (jd k_Mod_isElement 8 rfl) (by decide) ?_
      cases H
      exact j_pick [] rfl K7
    · rw [if_neg h4] at H
      refine j_iconst (pc := 12) (v := 1) (jd k_Mod_isElement 6 rfl) (by decide) ?_
      refine j_goto (pc := 13) (tgt := 17) (jd k_Mod_isElement 7 rfl) rfl ?_
      cases H
      exact j_pick [] rfl K7

set_option maxRecDepth 20000 in
theorem lp_Mod_point_51 {ad : Nat → Nat} {G : jG} {P : jR → va_W → Prop} (p0 : Int32) (p1 : Int32) : ∀ (n : Nat) (x14 : Int32) (s15 : jS) (r : Int32 × jS), L_Mod_point_51 p0 n x14 s15 = some r → J G m_Mod_point 2 0 0 P 91 [(0, .ref (ad 0)), (1, .int p0), (2, .int p1), (3, .int r.1)] [] (mkR ad G r.2) 0 0 → J G m_Mod_point 2 0 0 P 51 [(0, .ref (ad 0)), (1, .int p0), (2, .int p1), (3, .int x14)] [] (mkR ad G s15) 0 0 := by
  intro n
  induction n with
  | zero =>
    intro x14 s15 r H
    cases (show none = some r from H)
  | succ n ih =>
    intro x14 s15 r H kx
    have H : (
    if (s15 2 0) ≤ x14 then
      some (x14, s15)
    else
      if ¬ (s15 0 0) = 0 then
        some (x14, s15)
      else
        if jin x14 12 then
        Option.bind (α := Int32) (
          if ¬ (s15 3 x14.toNatClampNeg) = p0 then
            some 0
          else
            some 2) fun x20 =>
        jlet (va_up s15 0 (fun _ => x20)) fun s23 =>
        jlet (x14 + 1) fun x25 =>
        L_Mod_point_51 p0 n x25 s23
        else none) = some r := H
    refine j_iload_n (pc := 51) 3 (jd k_Mod_point 26 rfl) rfl ?_
    refine j_aload_n (pc := 52) 0 (jd k_Mod_point 27 rfl) rfl ?_
    refine j_get (pc := 53) (fs := flR ad s15) (v := .int (s15 2 0)) fl_Mod_184_10 0 (jd k_Mod_point 28 rfl) rfl rfl ?_
    refine j_icmp_ge (pc := 56) (tgt := 91) (jd k_Mod_point 29 rfl) rfl (fun h16 => ?_) (fun h16 => ?_)
    · rw [if_pos h16] at H
      cases H
      exact kx
    · rw [if_neg h16] at H
      refine j_aload_n (pc := 59) 0 (jd k_Mod_point 30 rfl) rfl ?_
      refine j_get (pc := 60) (fs := flR ad s15) (v := .int (s15 0 0)) fl_Mod_170_10 0 (jd k_Mod_point 31 rfl) rfl rfl ?_
      refine j_if_ne (pc := 63) (tgt := 91) (jd k_Mod_point 32 rfl) rfl (fun h17 => ?_) (fun h17 => ?_)
      · rw [if_pos h17] at H
        cases H
        exact kx
      · rw [if_neg (not_not_intro h17)] at H
        refine j_aload_n (pc := 66) 0 (jd k_Mod_point 33 rfl) rfl ?_
        refine j_aload_n (pc := 67) 0 (jd k_Mod_point 34 rfl) rfl ?_
        refine j_get (pc := 68) (fs := flR ad s15) (v := .ref (ad 1)) fl_Mod_7_10 0 (jd k_Mod_point 35 rfl) rfl rfl ?_
        refine j_iload_n (pc := 71) 3 (jd k_Mod_point 36 rfl) rfl ?_
        obtain ⟨h18, H⟩ := ochk H
        refine j_iald (pc := 72) (f := s15 3) 1 (jd k_Mod_point 37 rfl) rfl (jin.vp h18) ?_
        refine j_iload_n (pc := 73) 1 (jd k_Mod_point 38 rfl) rfl ?_
        obtain ⟨x20, h21, H⟩ := obnd H
        have K22 : J G m_Mod_point 2 0 0 P 82 [(0, .ref (ad 0)), (1, .int p0), (2, .int p1), (3, .int x14)] [.int x20, .ref (ad 0)] (mkR ad G s15) 0 0 := by
          obtain ⟨s23, e24, H⟩ := olet H
          refine j_put (pc := 82) (fs := flR ad s15) (fp_Mod_170_10 _) 0 (jd k_Mod_point 43 rfl) rfl rfl rfl (Nat.le_of_ble_eq_true rfl) ((wpR_0 ad G s15 _).trans (congrArg (mkR ad G) e24)) ?_
          obtain ⟨x25, e26, H⟩ := olet H
          refine j_iinc (pc := 85) (lv' := [(0, .ref (ad 0)), (1, .int p0), (2, .int p1), (3, .int x25)]) 3 (jd k_Mod_point 44 rfl) rfl e26 rfl (Nat.le_of_ble_eq_true rfl) rfl ?_
          refine j_goto (pc := 88) (tgt := 51) (jd k_Mod_point 45 rfl) rfl ?_
          exact ih x25 s23 _ H kx
        have H := h21
        refine j_icmp_ne (pc := 74) (tgt := 81) (jd k_Mod_point 39 rfl) rfl (fun h19 => ?_) (fun h19 => ?_)
        · rw [if_pos h19] at H
          refine j_iconst (pc := 81) (v := 0) (jd k_Mod_point 42 rfl) (by decide) ?_
          cases H
          exact K22
        · rw [if_neg (not_not_intro h19)] at H
          refine j_iconst (pc := 77) (v := 2) (jd k_Mod_point 40 rfl) (by decide) ?_
          refine j_goto (pc := 78) (tgt := 82) (jd k_Mod_point 41 rfl) rfl ?_
          cases H
          exact K22

set_option maxRecDepth 20000 in
theorem c_Mod_point (ad : Nat → Nat) (G : jG) (p0 : Int32) (p1 : Int32) (s : jS) (r : Int32 × jS) (H : f_Mod_point p0 p1 s = some r) : jCon G m_Mod_point y_Mod_point 2 0 0 [.ref (ad 0), .int p0, .int p1] (mkR ad G s) (jEq (some (.int r.1)) (mkR ad G r.2)) := by
  refine jCon.of (by decide +kernel) rfl rfl rfl (Nat.le_of_ble_eq_true rfl) rfl ?_
  have H : (
  Option.bind (α := Int32) (
    if p0 < 1 then
      some 1
    else
      Option.bind (f_Mod_isElement (s 1 0) p0) fun x2 =>
      if x2 = 0 then
        some 1
      else
        Option.bind (f_Mod_isElement (s 1 0) p1) fun x5 =>
        if ¬ x5 = 0 then
          if ¬ (s 2 0) = 12 then
            some 0
          else
            some 2
        else
          some 1) fun x9 =>
  jlet (va_up s 0 (fun _ => x9)) fun s12 =>
  Option.bind (L_Mod_point_51 p0 jF 0 s12) fun (x27, s28) =>
  if (s28 0 0) ≤ 0 then
    if jin (s28 2 0) 12 then
    jlet (va_up s28 3 (upd (s28 3) (s28 2 0).toNatClampNeg p0)) fun s31 =>
    if jin (s31 2 0) 12 then
    jlet (va_up s31 4 (upd (s31 4) (s31 2 0).toNatClampNeg p1)) fun s34 =>
    jlet (va_up s34 2 (fun _ => (s34 2 0) + 1)) fun s37 =>
    some (s37 2 0, s37)
    else none
    else none
  else
    some (0, s28)) = some r := H
  generalize hP9 : jEq (some (.int r.1)) (mkR ad G r.2) = P
  refine j_aload_n (pc := 0) 0 (jd k_Mod_point 0 rfl) rfl ?_
  refine j_iload_n (pc := 1) 1 (jd k_Mod_point 1 rfl) rfl ?_
  refine j_iconst (pc := 2) (v := 1) (jd k_Mod_point 2 rfl) (by decide) ?_
  obtain ⟨x9, h10, H⟩ := obnd H
  have K11 : J G m_Mod_point 2 0 0 P 46 [(0, .ref (ad 0)), (1, .int p0), (2, .int p1)] [.int x9, .ref (ad 0)] (mkR ad G s) 0 0 := by
    obtain ⟨s12, e13, H⟩ := olet H
    refine j_put (pc := 46) (fs := flR ad s) (fp_Mod_170_10 _) 0 (jd k_Mod_point 23 rfl) rfl rfl rfl (Nat.le_of_ble_eq_true rfl) ((wpR_0 ad G s _).trans (congrArg (mkR ad G) e13)) ?_
    refine j_iconst (pc := 49) (v := 0) (jd k_Mod_point 24 rfl) (by decide) ?_
    refine j_istore_n (pc := 50) (lv' := [(0, .ref (ad 0)), (1, .int p0), (2, .int p1), (3, .int 0)]) (jd k_Mod_point 25 rfl) rfl (Nat.le_of_ble_eq_true rfl) rfl ?_
    obtain ⟨⟨x27, s28⟩, h29, H⟩ := obnd H
    try dsimp only at H
    refine lp_Mod_point_51 p0 p1 jF 0 s12 _ h29 ?_
    refine j_pick (lv' := [(0, .ref (ad 0)), (1, .int p0), (2, .int p1)]) [0, 1, 2] rfl ?_
    refine j_aload_n (pc := 91) 0 (jd k_Mod_point 46 rfl) rfl ?_
    refine j_get (pc := 92) (fs := flR ad s28) (v := .int (s28 0 0)) fl_Mod_170_10 0 (jd k_Mod_point 47 rfl) rfl rfl ?_
    refine j_if_le (pc := 95) (tgt := 100) (jd k_Mod_point 48 rfl) rfl (fun h30 => ?_) (fun h30 => ?_)
    · rw [if_pos h30] at H
      refine j_aload_n (pc := 100) 0 (jd k_Mod_point 51 rfl) rfl ?_
      refine j_get (pc := 101) (fs := flR ad s28) (v := .ref (ad 1)) fl_Mod_7_10 0 (jd k_Mod_point 52 rfl) rfl rfl ?_
      refine j_aload_n (pc := 104) 0 (jd k_Mod_point 53 rfl) rfl ?_
      refine j_get (pc := 105) (fs := flR ad s28) (v := .int (s28 2 0)) fl_Mod_184_10 0 (jd k_Mod_point 54 rfl) rfl rfl ?_
      refine j_iload_n (pc := 108) 1 (jd k_Mod_point 55 rfl) rfl ?_
      obtain ⟨h33, H⟩ := ochk H
      obtain ⟨s31, e32, H⟩ := olet H
      refine j_iast (pc := 109) (f := s28 3) 1 (jd k_Mod_point 56 rfl) rfl (jin.vp h33) ((waR_3 ad G s28 _).trans (congrArg (mkR ad G) e32)) ?_
      refine j_aload_n (pc := 110) 0 (jd k_Mod_point 57 rfl) rfl ?_
      refine j_get (pc := 111) (fs := flR ad s31) (v := .ref (ad 2)) fl_Mod_13_10 0 (jd k_Mod_point 58 rfl) rfl rfl ?_
      refine j_aload_n (pc := 114) 0 (jd k_Mod_point 59 rfl) rfl ?_
      refine j_get (pc := 115) (fs := flR ad s31) (v := .int (s31 2 0)) fl_Mod_184_10 0 (jd k_Mod_point 60 rfl) rfl rfl ?_
      refine j_iload_n (pc := 118) 2 (jd k_Mod_point 61 rfl) rfl ?_
      obtain ⟨h36, H⟩ := ochk H
      obtain ⟨s34, e35, H⟩ := olet H
      refine j_iast (pc := 119) (f := s31 4) 2 (jd k_Mod_point 62 rfl) rfl (jin.vp h36) ((waR_4 ad G s31 _).trans (congrArg (mkR ad G) e35)) ?_
      refine j_aload_n (pc := 120) 0 (jd k_Mod_point 63 rfl) rfl ?_
      refine j_dup (pc := 121) (jd k_Mod_point 64 rfl) rfl ?_
      refine j_get (pc := 122) (fs := flR ad s34) (v := .int (s34 2 0)) fl_Mod_184_10 0 (jd k_Mod_point 65 rfl) rfl rfl ?_
      refine j_iconst (pc := 125) (v := 1) (jd k_Mod_point 66 rfl) (by decide) ?_
      refine j_iadd (pc := 126) (jd k_Mod_point 67 rfl) ?_
      obtain ⟨s37, e38, H⟩ := olet H
      refine j_put (pc := 127) (fs := flR ad s34) (fp_Mod_184_10 _) 0 (jd k_Mod_point 68 rfl) rfl rfl rfl (Nat.le_of_ble_eq_true rfl) ((wpR_2 ad G s34 _).trans (congrArg (mkR ad G) e38)) ?_
      refine j_aload_n (pc := 130) 0 (jd k_Mod_point 69 rfl) rfl ?_
      refine j_get (pc := 131) (fs := flR ad s37) (v := .int (s37 2 0)) fl_Mod_184_10 0 (jd k_Mod_point 70 rfl) rfl rfl ?_
      cases H
      subst hP9
      exact j_iret (pc := 134) (jd k_Mod_point 71 rfl) rfl rfl ⟨rfl, rfl⟩
    · rw [if_neg h30] at H
      refine j_iconst (pc := 98) (v := 0) (jd k_Mod_point 49 rfl) (by decide) ?_
      cases H
      subst hP9
      exact j_iret (pc := 99) (jd k_Mod_point 50 rfl) rfl rfl ⟨rfl, rfl⟩
  have H := h10
  refine j_icmp_lt (pc := 3) (tgt := 28) (jd k_Mod_point 3 rfl) rfl (fun h1 => ?_) (fun h1 => ?_)
  · rw [if_pos h1] at H
    refine j_iconst (pc := 28) (v := 1) (jd k_Mod_point 14 rfl) (by decide) ?_
    refine j_goto (pc := 29) (tgt := 46) (jd k_Mod_point 15 rfl) rfl ?_
    cases H
    exact K11
  · rw [if_neg h1] at H
    refine j_aload_n (pc := 6) 0 (jd k_Mod_point 4 rfl) rfl ?_
    refine j_get (pc := 7) (fs := flR ad s) (v := .int (s 1 0)) fl_Mod_181_10 0 (jd k_Mod_point 5 rfl) rfl rfl ?_
    refine j_iload_n (pc := 10) 1 (jd k_Mod_point 6 rfl) rfl ?_
    obtain ⟨x2, h3, H⟩ := obnd H
    refine jc_S (pc := 11) (st := [.ref (ad 0)]) (c_Mod_isElement G _ (s 1 0) p0 _ h3) L0_Mod_isElement w1282 w1283 (jd k_Mod_point 7 rfl) rfl (Nat.le_of_ble_eq_true rfl) (by decide) (Nat.le_refl _) (Nat.le_refl _) rfl rfl ?_
    refine j_if_eq (pc := 14) (tgt := 28) (jd k_Mod_point 8 rfl) rfl (fun h4 => ?_) (fun h4 => ?_)
    · rw [if_pos h4] at H
      refine j_iconst (pc := 28) (v := 1) (jd k_Mod_point 14 rfl) (by decide) ?_
      refine j_goto (pc := 29) (tgt := 46) (jd k_Mod_point 15 rfl) rfl ?_
      cases H
      exact K11
    · rw [if_neg h4] at H
      refine j_aload_n (pc := 17) 0 (jd k_Mod_point 9 rfl) rfl ?_
      refine j_get (pc := 18) (fs := flR ad s) (v := .int (s 1 0)) fl_Mod_181_10 0 (jd k_Mod_point 10 rfl) rfl rfl ?_
      refine j_iload_n (pc := 21) 2 (jd k_Mod_point 11 rfl) rfl ?_
      obtain ⟨x5, h6, H⟩ := obnd H
      refine jc_S (pc := 22) (st := [.ref (ad 0)]) (c_Mod_isElement G _ (s 1 0) p1 _ h6) L0_Mod_isElement w1282 w1283 (jd k_Mod_point 12 rfl) rfl (Nat.le_of_ble_eq_true rfl) (by decide) (Nat.le_refl _) (Nat.le_refl _) rfl rfl ?_
      refine j_if_ne (pc := 25) (tgt := 32) (jd k_Mod_point 13 rfl) rfl (fun h7 => ?_) (fun h7 => ?_)
      · rw [if_pos h7] at H
        refine j_aload_n (pc := 32) 0 (jd k_Mod_point 16 rfl) rfl ?_
        refine j_get (pc := 33) (fs := flR ad s) (v := .int (s 2 0)) fl_Mod_184_10 0 (jd k_Mod_point 17 rfl) rfl rfl ?_
        refine j_bipush (pc := 36) (v := 12) (jd k_Mod_point 18 rfl) (by decide) ?_
        refine j_icmp_ne (pc := 38) (tgt := 45) (jd k_Mod_point 19 rfl) rfl (fun h8 => ?_) (fun h8 => ?_)
        · rw [if_pos h8] at H
          refine j_iconst (pc := 45) (v := 0) (jd k_Mod_point 22 rfl) (by decide) ?_
          cases H
          exact K11
        · rw [if_neg (not_not_intro h8)] at H
          refine j_iconst (pc := 41) (v := 2) (jd k_Mod_point 20 rfl) (by decide) ?_
          refine j_goto (pc := 42) (tgt := 46) (jd k_Mod_point 21 rfl) rfl ?_
          cases H
          exact K11
      · rw [if_neg (not_not_intro h7)] at H
        refine j_iconst (pc := 28) (v := 1) (jd k_Mod_point 14 rfl) (by decide) ?_
        refine j_goto (pc := 29) (tgt := 46) (jd k_Mod_point 15 rfl) rfl ?_
        cases H
        exact K11

set_option maxRecDepth 20000 in
theorem c_Mod_less (G : jG) (ws : va_W) (p0 : Int32) (p1 : Int32) (p2 : Int32) (r : Int32) (H : f_Mod_less p0 p1 p2 = some r) : jCon G m_Mod_less y_Mod_less 1 0 0 [.int p0, .int p1, .int p2] ws (jEq (some (.int r)) ws) := by
  refine jCon.of (by decide +kernel) rfl rfl rfl (Nat.le_of_ble_eq_true rfl) rfl ?_
  have H : (
  Option.bind (α := Int32) (
    if ¬ p0 = 0 then
      Option.bind (f_Mod_order p0) fun x2 =>
      Option.bind (f_Mod_order p0) fun x4 =>
      if ¬ x4 = 0 then
      some (jrem ((p1 - p2) + x2) x4)
      else none
    else
      some (p1 ^^^ p2)) fun x7 =>
  some x7) = some r := H
  generalize hP9 : jEq (some (.int r)) ws = P
  refine j_iload_n (pc := 0) 0 (jd k_Mod_less 0 rfl) rfl ?_
  obtain ⟨x7, h8, H⟩ := obnd H
  have K9 : J G m_Mod_less 1 0 0 P 23 [] [.int x7] ws 0 0 := by
    cases H
    subst hP9
    exact j_iret (pc := 23) (jd k_Mod_less 15 rfl) rfl rfl ⟨rfl, rfl⟩
  have H := h8
  refine j_if_ne (pc := 1) (tgt := 10) (jd k_Mod_less 1 rfl) rfl (fun h1 => ?_) (fun h1 => ?_)
  · rw [if_pos h1] at H
    refine j_iload_n (pc := 10) 1 (jd k_Mod_less 6 rfl) rfl ?_
    refine j_iload_n (pc := 11) 2 (jd k_Mod_less 7 rfl) rfl ?_
    refine j_isub (pc := 12) (jd k_Mod_less 8 rfl) ?_
    refine j_iload_n (pc := 13) 0 (jd k_Mod_less 9 rfl) rfl ?_
    obtain ⟨x2, h3, H⟩ := obnd H
    refine jc_S (pc := 14) (st := [.int (p1 - p2)]) (c_Mod_order G _ p0 _ h3) L0_Mod_order w1285 w1286 (jd k_Mod_less 10 rfl) rfl (Nat.le_of_ble_eq_true rfl) (by decide) (Nat.le_refl _) (Nat.le_refl _) rfl rfl ?_
    refine j_iadd (pc := 17) (jd k_Mod_less 11 rfl) ?_
    refine j_iload_n (pc := 18) 0 (jd k_Mod_less 12 rfl) rfl ?_
    obtain ⟨x4, h5, H⟩ := obnd H
    refine jc_S (pc := 19) (st := [.int ((p1 - p2) + x2)]) (c_Mod_order G _ p0 _ h5) L0_Mod_order w1285 w1286 (jd k_Mod_less 13 rfl) rfl (Nat.le_of_ble_eq_true rfl) (by decide) (Nat.le_refl _) (Nat.le_refl _) rfl rfl ?_
    obtain ⟨h6, H⟩ := ochk H
    refine j_irem (pc := 22) (jd k_Mod_less 14 rfl) h6 ?_
    cases H
    exact j_pick [] rfl K9
  · rw [if_neg (not_not_intro h1)] at H
    refine j_iload_n (pc := 4) 1 (jd k_Mod_less 2 rfl) rfl ?_
    refine j_iload_n (pc := 5) 2 (jd k_Mod_less 3 rfl) rfl ?_
    refine j_ixor (pc := 6) (jd k_Mod_less 4 rfl) ?_
    refine j_goto (pc := 7) (tgt := 23) (jd k_Mod_less 5 rfl) rfl ?_
    cases H
    exact j_pick [] rfl K9

set_option maxRecDepth 20000 in
theorem lp_Mod_times_19 {G : jG} {P : jR → va_W → Prop} (ws : va_W) (p1 : Int32) (p2 : Int32) : ∀ (n : Nat) (x2 : Int32) (x3 : Int32) (r : Int32 × Int32), L_Mod_times_19 p1 p2 n x2 x3 = some r → J G m_Mod_times 1 0 0 P 70 [(1, .int p1), (2, .int p2), (3, .int r.1), (4, .int r.2)] [] ws 0 0 → J G m_Mod_times 1 0 0 P 19 [(1, .int p1), (2, .int p2), (3, .int x2), (4, .int x3)] [] ws 0 0 := by
  intro n
  induction n with
  | zero =>
    intro x2 x3 r H
    cases (show none = some r from H)
  | succ n ih =>
    intro x2 x3 r H kx
    have H : (
    if x3 < 0 then
      some (x2, x3)
    else
      Option.bind (α := Int32) (
        if (x2 &&& 128) = 0 then
          some (x2 <<< (1 &&& 31))
        else
          some ((x2 <<< (1 &&& 31)) ^^^ 283)) fun x6 =>
      Option.bind (α := Int32) (
        if ¬ ((p2 >>> (x3 &&& 31)) &&& 1) = 1 then
          some x6
        else
          some (x6 ^^^ p1)) fun x10 =>
      jlet (x3 + (-1)) fun x13 =>
      L_Mod_times_19 p1 p2 n x10 x13) = some r := H
    refine j_iload (pc := 19) 3 (jd k_Mod_times 13 rfl) rfl ?_
    refine j_if_lt (pc := 21) (tgt := 70) (jd k_Mod_times 14 rfl) rfl (fun h4 => ?_) (fun h4 => ?_)
    · rw [if_pos h4] at H
      cases H
      exact kx
    · rw [if_neg h4] at H
      refine j_iload_n (pc := 24) 2 (jd k_Mod_times 15 rfl) rfl ?_
      refine j_sipush (pc := 25) (v := 128) (jd k_Mod_times 16 rfl) (by decide) ?_
      refine j_iand (pc := 28) (jd k_Mod_times 17 rfl) ?_
      obtain ⟨x6, h7, H⟩ := obnd H
      have K8 : J G m_Mod_times 1 0 0 P 45 [(1, .int p1), (2, .int p2), (4, .int x3)] [.int x6] ws 0 0 := by
        refine j_istore_n (pc := 45) (lv' := [(1, .int p1), (2, .int p2), (3, .int x6), (4, .int x3)]) (jd k_Mod_times 28 rfl) rfl (Nat.le_of_ble_eq_true rfl) rfl ?_
        refine j_iload_n (pc := 46) 1 (jd k_Mod_times 29 rfl) rfl ?_
        refine j_iload (pc := 47) 3 (jd k_Mod_times 30 rfl) rfl ?_
        refine j_ishr (pc := 49) (jd k_Mod_times 31 rfl) ?_
        refine j_iconst (pc := 50) (v := 1) (jd k_Mod_times 32 rfl) (by decide) ?_
        refine j_iand (pc := 51) (jd k_Mod_times 33 rfl) ?_
        refine j_iconst (pc := 52) (v := 1) (jd k_Mod_times 34 rfl) (by decide) ?_
        obtain ⟨x10, h11, H⟩ := obnd H
        have K12 : J G m_Mod_times 1 0 0 P 63 [(1, .int p1), (2, .int p2), (4, .int x3)] [.int x10] ws 0 0 := by
          refine j_istore_n (pc := 63) (lv' := [(1, .int p1), (2, .int p2), (3, .int x10), (4, .int x3)]) (jd k_Mod_times 41 rfl) rfl (Nat.le_of_ble_eq_true rfl) rfl ?_
          obtain ⟨x13, e14, H⟩ := olet H
          refine j_iinc (pc := 64) (lv' := [(1, .int p1), (2, .int p2), (3, .int x10), (4, .int x13)]) 3 (jd k_Mod_times 42 rfl) rfl e14 rfl (Nat.le_of_ble_eq_true rfl) rfl ?_
          refine j_goto (pc := 67) (tgt := 19) (jd k_Mod_times 43 rfl) rfl ?_
          exact ih x10 x13 _ H kx
        have H := h11
        refine j_icmp_ne (pc := 53) (tgt := 62) (jd k_Mod_times 35 rfl) rfl (fun h9 => ?_) (fun h9 => ?_)
        · rw [if_pos h9] at H
          refine j_iload_n (pc := 62) 2 (jd k_Mod_times 40 rfl) rfl ?_
          cases H
          exact j_pick [0, 1, 3] rfl K12
        · rw [if_neg (not_not_intro h9)] at H
          refine j_iload_n (pc := 56) 2 (jd k_Mod_times 36 rfl) rfl ?_
          refine j_iload_n (pc := 57) 0 (jd k_Mod_times 37 rfl) rfl ?_
          refine j_ixor (pc := 58) (jd k_Mod_times 38 rfl) ?_
          refine j_goto (pc := 59) (tgt := 63) (jd k_Mod_times 39 rfl) rfl ?_
          cases H
          exact j_pick [0, 1, 3] rfl K12
      have H := h7
      refine j_if_eq (pc := 29) (tgt := 42) (jd k_Mod_times 18 rfl) rfl (fun h5 => ?_) (fun h5 => ?_)
      · rw [if_pos h5] at H
        refine j_iload_n (pc := 42) 2 (jd k_Mod_times 25 rfl) rfl ?_
        refine j_iconst (pc := 43) (v := 1) (jd k_Mod_times 26 rfl) (by decide) ?_
        refine j_ishl (pc := 44) (jd k_Mod_times 27 rfl) ?_
        cases H
        exact j_pick [0, 1, 3] rfl K8
      · rw [if_neg h5] at H
        refine j_iload_n (pc := 32) 2 (jd k_Mod_times 19 rfl) rfl ?_
        refine j_iconst (pc := 33) (v := 1) (jd k_Mod_times 20 rfl) (by decide) ?_
        refine j_ishl (pc := 34) (jd k_Mod_times 21 rfl) ?_
        refine j_sipush (pc := 35) (v := 283) (jd k_Mod_times 22 rfl) (by decide) ?_
        refine j_ixor (pc := 38) (jd k_Mod_times 23 rfl) ?_
        refine j_goto (pc := 39) (tgt := 45) (jd k_Mod_times 24 rfl) rfl ?_
        cases H
        exact j_pick [0, 1, 3] rfl K8

set_option maxRecDepth 20000 in
theorem c_Mod_times (G : jG) (ws : va_W) (p0 : Int32) (p1 : Int32) (p2 : Int32) (r : Int32) (H : f_Mod_times p0 p1 p2 = some r) : jCon G m_Mod_times y_Mod_times 1 0 0 [.int p0, .int p1, .int p2] ws (jEq (some (.int r)) ws) := by
  refine jCon.of (by decide +kernel) rfl rfl rfl (Nat.le_of_ble_eq_true rfl) rfl ?_
  have H : (
  if p0 ≤ 0 then
    Option.bind (L_Mod_times_19 p1 p2 jF 0 7) fun (x15, x16) =>
    some x15
  else
    Option.bind (f_Mod_order p0) fun x18 =>
    if ¬ x18 = 0 then
    some (jrem (p1 * p2) x18)
    else none) = some r := H
  generalize hP9 : jEq (some (.int r)) ws = P
  refine j_iload_n (pc := 0) 0 (jd k_Mod_times 0 rfl) rfl ?_
  refine j_if_le (pc := 1) (tgt := 13) (jd k_Mod_times 1 rfl) rfl (fun h1 => ?_) (fun h1 => ?_)
  · rw [if_pos h1] at H
    refine j_iconst (pc := 13) (v := 0) (jd k_Mod_times 9 rfl) (by decide) ?_
    refine j_istore_n (pc := 14) (lv' := [(0, .int p0), (1, .int p1), (2, .int p2), (3, .int 0)]) (jd k_Mod_times 10 rfl) rfl (Nat.le_of_ble_eq_true rfl) rfl ?_
    refine j_bipush (pc := 15) (v := 7) (jd k_Mod_times 11 rfl) (by decide) ?_
    refine j_istore (pc := 17) (lv' := [(0, .int p0), (1, .int p1), (2, .int p2), (3, .int 0), (4, .int 7)]) (jd k_Mod_times 12 rfl) rfl (Nat.le_of_ble_eq_true rfl) rfl ?_
    obtain ⟨⟨x15, x16⟩, h17, H⟩ := obnd H
    try dsimp only at H
    refine j_pick (lv' := [(1, .int p1), (2, .int p2), (3, .int 0), (4, .int 7)]) [1, 2, 3, 4] rfl ?_
    refine lp_Mod_times_19 ws p1 p2 jF 0 7 _ h17 ?_
    refine j_pick (lv' := [(3, .int x15)]) [2] rfl ?_
    refine j_iload_n (pc := 70) 0 (jd k_Mod_times 44 rfl) rfl ?_
    cases H
    subst hP9
    exact j_iret (pc := 71) (jd k_Mod_times 45 rfl) rfl rfl ⟨rfl, rfl⟩
  · rw [if_neg h1] at H
    refine j_iload_n (pc := 4) 1 (jd k_Mod_times 2 rfl) rfl ?_
    refine j_iload_n (pc := 5) 2 (jd k_Mod_times 3 rfl) rfl ?_
    refine j_imul (pc := 6) (jd k_Mod_times 4 rfl) ?_
    refine j_iload_n (pc := 7) 0 (jd k_Mod_times 5 rfl) rfl ?_
    obtain ⟨x18, h19, H⟩ := obnd H
    refine jc_S (pc := 8) (st := [.int (p1 * p2)]) (c_Mod_order G _ p0 _ h19) L0_Mod_order w1285 w1286 (jd k_Mod_times 6 rfl) rfl (Nat.le_of_ble_eq_true rfl) (by decide) (Nat.le_refl _) (Nat.le_refl _) rfl rfl ?_
    obtain ⟨h20, H⟩ := ochk H
    refine j_irem (pc := 11) (jd k_Mod_times 7 rfl) h20 ?_
    cases H
    subst hP9
    exact j_iret (pc := 12) (jd k_Mod_times 8 rfl) rfl rfl ⟨rfl, rfl⟩

set_option maxRecDepth 20000 in
theorem lp_Mod_over_2 {G : jG} {P : jR → va_W → Prop} (ws : va_W) (p0 : Int32) (p1 : Int32) (p2 : Int32) : ∀ (n : Nat) (x1 : Int32) (r : Int32), L_Mod_over_2 p0 p1 p2 n x1 = some r → J G m_Mod_over 2 0 0 P 18 [(0, .int p0), (1, .int p1), (2, .int p2), (3, .int r)] [] ws 0 0 → J G m_Mod_over 2 0 0 P 2 [(0, .int p0), (1, .int p1), (2, .int p2), (3, .int x1)] [] ws 0 0 := by
  intro n
  induction n with
  | zero =>
    intro x1 r H
    cases (show none = some r from H)
  | succ n ih =>
    intro x1 r H kx
    have H : (
    Option.bind (f_Mod_times p0 x1 p2) fun x2 =>
    if x2 = p1 then
      some x1
    else
      jlet (x1 + 1) fun x5 =>
      L_Mod_over_2 p0 p1 p2 n x5) = some r := H
    refine j_iload_n (pc := 2) 0 (jd k_Mod_over 2 rfl) rfl ?_
    refine j_iload_n (pc := 3) 3 (jd k_Mod_over 3 rfl) rfl ?_
    refine j_iload_n (pc := 4) 2 (jd k_Mod_over 4 rfl) rfl ?_
    obtain ⟨x2, h3, H⟩ := obnd H
    refine jc_S (pc := 5) (st := []) (c_Mod_times G _ p0 x1 p2 _ h3) L0_Mod_times w1302 w1303 (jd k_Mod_over 5 rfl) rfl (Nat.le_of_ble_eq_true rfl) (by decide) (Nat.le_refl _) (Nat.le_refl _) rfl rfl ?_
    refine j_iload_n (pc := 8) 1 (jd k_Mod_over 6 rfl) rfl ?_
    refine j_icmp_eq (pc := 9) (tgt := 18) (jd k_Mod_over 7 rfl) rfl (fun h4 => ?_) (fun h4 => ?_)
    · rw [if_pos h4] at H
      cases H
      exact kx
    · rw [if_neg h4] at H
      obtain ⟨x5, e6, H⟩ := olet H
      refine j_iinc (pc := 12) (lv' := [(0, .int p0), (1, .int p1), (2, .int p2), (3, .int x5)]) 3 (jd k_Mod_over 8 rfl) rfl e6 rfl (Nat.le_of_ble_eq_true rfl) rfl ?_
      refine j_goto (pc := 15) (tgt := 2) (jd k_Mod_over 9 rfl) rfl ?_
      exact ih x5 _ H kx

set_option maxRecDepth 20000 in
theorem c_Mod_over (G : jG) (ws : va_W) (p0 : Int32) (p1 : Int32) (p2 : Int32) (r : Int32) (H : f_Mod_over p0 p1 p2 = some r) : jCon G m_Mod_over y_Mod_over 2 0 0 [.int p0, .int p1, .int p2] ws (jEq (some (.int r)) ws) := by
  refine jCon.of (by decide +kernel) rfl rfl rfl (Nat.le_of_ble_eq_true rfl) rfl ?_
  have H : (
  Option.bind (L_Mod_over_2 p0 p1 p2 jF 0) fun x7 =>
  some x7) = some r := H
  generalize hP9 : jEq (some (.int r)) ws = P
  refine j_iconst (pc := 0) (v := 0) (jd k_Mod_over 0 rfl) (by decide) ?_
  refine j_istore_n (pc := 1) (lv' := [(0, .int p0), (1, .int p1), (2, .int p2), (3, .int 0)]) (jd k_Mod_over 1 rfl) rfl (Nat.le_of_ble_eq_true rfl) rfl ?_
  obtain ⟨x7, h8, H⟩ := obnd H
  refine lp_Mod_over_2 ws p0 p1 p2 jF 0 _ h8 ?_
  refine j_pick (lv' := [(3, .int x7)]) [3] rfl ?_
  refine j_iload_n (pc := 18) 0 (jd k_Mod_over 10 rfl) rfl ?_
  cases H
  subst hP9
  exact j_iret (pc := 19) (jd k_Mod_over 11 rfl) rfl rfl ⟨rfl, rfl⟩

set_option maxRecDepth 20000 in
theorem lp_Mod_divide_45 {ad : Nat → Nat} {G : jG} {P : jR → va_W → Prop} (x13 : Int32) : ∀ (n : Nat) (x17 : Int32) (s18 : jS) (r : Int32 × jS), L_Mod_divide_45 x13 n x17 s18 = some r → J G m_Mod_divide 3 0 0 P 111 [(0, .ref (ad 0)), (1, .int x13), (2, .int r.1)] [] (mkR ad G r.2) 0 0 → J G m_Mod_divide 3 0 0 P 45 [(0, .ref (ad 0)), (1, .int x13), (2, .int x17)] [] (mkR ad G s18) 0 0 := by
  intro n
  induction n with
  | zero =>
    intro x17 s18 r H
    cases (show none = some r from H)
  | succ n ih =>
    intro x17 s18 r H kx
    have H : (
    if x17 < x13 then
      some (x17, s18)
    else
      if jin x17 12 then
      if jin (x17 - 1) 12 then
      Option.bind (f_Mod_less (s18 1 0) (s18 5 x17.toNatClampNeg) (s18 5 (x17 - 1).toNatClampNeg)) fun x22 =>
      if jin x17 12 then
      if jin (x17 - x13) 12 then
      Option.bind (f_Mod_less (s18 1 0) (s18 3 x17.toNatClampNeg) (s18 3 (x17 - x13).toNatClampNeg)) fun x26 =>
      Option.bind (f_Mod_over (s18 1 0) x22 x26) fun x28 =>
      if jin x17 12 then
      jlet (va_up s18 5 (upd (s18 5) x17.toNatClampNeg x28)) fun s30 =>
      jlet (x17 + (-1)) fun x33 =>
      L_Mod_divide_45 x13 n x33 s30
      else none
      else none
      else none
      else none
      else none) = some r := H
    refine j_iload_n (pc := 45) 2 (jd k_Mod_divide 27 rfl) rfl ?_
    refine j_iload_n (pc := 46) 1 (jd k_Mod_divide 28 rfl) rfl ?_
    refine j_icmp_lt (pc := 47) (tgt := 111) (jd k_Mod_divide 29 rfl) rfl (fun h19 => ?_) (fun h19 => ?_)
    · rw [if_pos h19] at H
      cases H
      exact kx
    · rw [if_neg h19] at H
      refine j_aload_n (pc := 50) 0 (jd k_Mod_divide 30 rfl) rfl ?_
      refine j_get (pc := 51) (fs := flR ad s18) (v := .ref (ad 3)) fl_Mod_16_10 0 (jd k_Mod_divide 31 rfl) rfl rfl ?_
      refine j_iload_n (pc := 54) 2 (jd k_Mod_divide 32 rfl) rfl ?_
      refine j_aload_n (pc := 55) 0 (jd k_Mod_divide 33 rfl) rfl ?_
      refine j_get (pc := 56) (fs := flR ad s18) (v := .int (s18 1 0)) fl_Mod_181_10 0 (jd k_Mod_divide 34 rfl) rfl rfl ?_
      refine j_aload_n (pc := 59) 0 (jd k_Mod_divide 35 rfl) rfl ?_
      refine j_get (pc := 60) (fs := flR ad s18) (v := .int (s18 1 0)) fl_Mod_181_10 0 (jd k_Mod_divide 36 rfl) rfl rfl ?_
      refine j_aload_n (pc := 63) 0 (jd k_Mod_divide 37 rfl) rfl ?_
      refine j_get (pc := 64) (fs := flR ad s18) (v := .ref (ad 3)) fl_Mod_16_10 0 (jd k_Mod_divide 38 rfl) rfl rfl ?_
      refine j_iload_n (pc := 67) 2 (jd k_Mod_divide 39 rfl) rfl ?_
      obtain ⟨h20, H⟩ := ochk H
      refine j_iald (pc := 68) (f := s18 5) 3 (jd k_Mod_divide 40 rfl) rfl (jin.vp h20) ?_
      refine j_aload_n (pc := 69) 0 (jd k_Mod_divide 41 rfl) rfl ?_
      refine j_get (pc := 70) (fs := flR ad s18) (v := .ref (ad 3)) fl_Mod_16_10 0 (jd k_Mod_divide 42 rfl) rfl rfl ?_
      refine j_iload_n (pc := 73) 2 (jd k_Mod_divide 43 rfl) rfl ?_
      refine j_iconst (pc := 74) (v := 1) (jd k_Mod_divide 44 rfl) (by decide) ?_
      refine j_isub (pc := 75) (jd k_Mod_divide 45 rfl) ?_
      obtain ⟨h21, H⟩ := ochk H
      refine j_iald (pc := 76) (f := s18 5) 3 (jd k_Mod_divide 46 rfl) rfl (jin.vp h21) ?_
      obtain ⟨x22, h23, H⟩ := obnd H
      refine jc_S (pc := 77) (st := [.int (s18 1 0), .int x17, .ref (ad 3)]) (c_Mod_less G _ (s18 1 0) (s18 5 x17.toNatClampNeg) (s18 5 (x17 - 1).toNatClampNeg) _ h23) L0_Mod_less w1296 w1297 (jd k_Mod_divide 47 rfl) rfl (Nat.le_of_ble_eq_true rfl) (by decide) (Nat.le_refl _) (Nat.le_refl _) rfl rfl ?_
      refine j_aload_n (pc := 80) 0 (jd k_Mod_divide 48 rfl) rfl ?_
      refine j_get (pc := 81) (fs := flR ad s18) (v := .int (s18 1 0)) fl_Mod_181_10 0 (jd k_Mod_divide 49 rfl) rfl rfl ?_
      refine j_aload_n (pc := 84) 0 (jd k_Mod_divide 50 rfl) rfl ?_
      refine j_get (pc := 85) (fs := flR ad s18) (v := .ref (ad 1)) fl_Mod_7_10 0 (jd k_Mod_divide 51 rfl) rfl rfl ?_
      refine j_iload_n (pc := 88) 2 (jd k_Mod_divide 52 rfl) rfl ?_
      obtain ⟨h24, H⟩ := ochk H
      refine j_iald (pc := 89) (f := s18 3) 1 (jd k_Mod_divide 53 rfl) rfl (jin.vp h24) ?_
      refine j_aload_n (pc := 90) 0 (jd k_Mod_divide 54 rfl) rfl ?_
      refine j_get (pc := 91) (fs := flR ad s18) (v := .ref (ad 1)) fl_Mod_7_10 0 (jd k_Mod_divide 55 rfl) rfl rfl ?_
      refine j_iload_n (pc := 94) 2 (jd k_Mod_divide 56 rfl) rfl ?_
      refine j_iload_n (pc := 95) 1 (jd k_Mod_divide 57 rfl) rfl ?_
      refine j_isub (pc := 96) (jd k_Mod_divide 58 rfl) ?_
      obtain ⟨h25, H⟩ := ochk H
      refine j_iald (pc := 97) (f := s18 3) 1 (jd k_Mod_divide 59 rfl) rfl (jin.vp h25) ?_
      obtain ⟨x26, h27, H⟩ := obnd H
      refine jc_S (pc := 98) (st := [.int x22, .int (s18 1 0), .int x17, .ref (ad 3)]) (c_Mod_less G _ (s18 1 0) (s18 3 x17.toNatClampNeg) (s18 3 (x17 - x13).toNatClampNeg) _ h27) L0_Mod_less w1296 w1297 (jd k_Mod_divide 60 rfl) rfl (Nat.le_of_ble_eq_true rfl) (by decide) (Nat.le_refl _) (Nat.le_refl _) rfl rfl ?_
      obtain ⟨x28, h29, H⟩ := obnd H
      refine jc_S (pc := 101) (st := [.int x17, .ref (ad 3)]) (c_Mod_over G _ (s18 1 0) x22 x26 _ h29) L0_Mod_over w1299 w1300 (jd k_Mod_divide 61 rfl) rfl (Nat.le_of_ble_eq_true rfl) (by decide) (Nat.le_refl _) (Nat.le_refl _) rfl rfl ?_
      obtain ⟨h32, H⟩ := ochk H
      obtain ⟨s30, e31, H⟩ := olet H
      refine j_iast (pc := 104) (f := s18 5) 3 (jd k_Mod_divide 62 rfl) rfl (jin.vp h32) ((waR_5 ad G s18 _).trans (congrArg (mkR ad G) e31)) ?_
      obtain ⟨x33, e34, H⟩ := olet H
      refine j_iinc (pc := 105) (lv' := [(0, .ref (ad 0)), (1, .int x13), (2, .int x33)]) 2 (jd k_Mod_divide 63 rfl) rfl e34 rfl (Nat.le_of_ble_eq_true rfl) rfl ?_
      refine j_goto (pc := 108) (tgt := 45) (jd k_Mod_divide 64 rfl) rfl ?_
      exact ih x33 s30 _ H kx

set_option maxRecDepth 20000 in
theorem lp_Mod_divide_30 {ad : Nat → Nat} {G : jG} {P : jR → va_W → Prop} : ∀ (n : Nat) (x13 : Int32) (s14 : jS) (r : Int32 × jS), L_Mod_divide_30 n x13 s14 = some r → J G m_Mod_divide 3 0 0 P 117 [(0, .ref (ad 0)), (1, .int r.1)] [] (mkR ad G r.2) 0 0 → J G m_Mod_divide 3 0 0 P 30 [(0, .ref (ad 0)), (1, .int x13)] [] (mkR ad G s14) 0 0 := by
  intro n
  induction n with
  | zero =>
    intro x13 s14 r H
    cases (show none = some r from H)
  | succ n ih =>
    intro x13 s14 r H kx
    have H : (
    if (s14 2 0) ≤ x13 then
      some (x13, s14)
    else
      jlet ((s14 2 0) - 1) fun x16 =>
      Option.bind (L_Mod_divide_45 x13 jF x16 s14) fun (x35, s36) =>
      jlet (x13 + 1) fun x38 =>
      L_Mod_divide_30 n x38 s36) = some r := H
    refine j_iload_n (pc := 30) 1 (jd k_Mod_divide 18 rfl) rfl ?_
    refine j_aload_n (pc := 31) 0 (jd k_Mod_divide 19 rfl) rfl ?_
    refine j_get (pc := 32) (fs := flR ad s14) (v := .int (s14 2 0)) fl_Mod_184_10 0 (jd k_Mod_divide 20 rfl) rfl rfl ?_
    refine j_icmp_ge (pc := 35) (tgt := 117) (jd k_Mod_divide 21 rfl) rfl (fun h15 => ?_) (fun h15 => ?_)
    · rw [if_pos h15] at H
      cases H
      exact kx
    · rw [if_neg h15] at H
      refine j_aload_n (pc := 38) 0 (jd k_Mod_divide 22 rfl) rfl ?_
      refine j_get (pc := 39) (fs := flR ad s14) (v := .int (s14 2 0)) fl_Mod_184_10 0 (jd k_Mod_divide 23 rfl) rfl rfl ?_
      refine j_iconst (pc := 42) (v := 1) (jd k_Mod_divide 24 rfl) (by decide) ?_
      refine j_isub (pc := 43) (jd k_Mod_divide 25 rfl) ?_
      obtain ⟨x16, e40, H⟩ := olet H
      refine j_topi e40 ?_
      refine j_istore_n (pc := 44) (lv' := [(0, .ref (ad 0)), (1, .int x13), (2, .int x16)]) (jd k_Mod_divide 26 rfl) rfl (Nat.le_of_ble_eq_true rfl) rfl ?_
      obtain ⟨⟨x35, s36⟩, h37, H⟩ := obnd H
      try dsimp only at H
      refine lp_Mod_divide_45 x13 jF x16 s14 _ h37 ?_
      refine j_pick (lv' := [(0, .ref (ad 0)), (1, .int x13)]) [0, 1] rfl ?_
      obtain ⟨x38, e39, H⟩ := olet H
      refine j_iinc (pc := 111) (lv' := [(0, .ref (ad 0)), (1, .int x38)]) 1 (jd k_Mod_divide 65 rfl) rfl e39 rfl (Nat.le_of_ble_eq_true rfl) rfl ?_
      refine j_goto (pc := 114) (tgt := 30) (jd k_Mod_divide 66 rfl) rfl ?_
      exact ih x38 s36 _ H kx

set_option maxRecDepth 20000 in
theorem lp_Mod_divide_2 {ad : Nat → Nat} {G : jG} {P : jR → va_W → Prop} : ∀ (n : Nat) (x1 : Int32) (s2 : jS) (r : Int32 × jS), L_Mod_divide_2 n x1 s2 = some r → J G m_Mod_divide 3 0 0 P 28 [(0, .ref (ad 0)), (1, .int r.1)] [] (mkR ad G r.2) 0 0 → J G m_Mod_divide 3 0 0 P 2 [(0, .ref (ad 0)), (1, .int x1)] [] (mkR ad G s2) 0 0 := by
  intro n
  induction n with
  | zero =>
    intro x1 s2 r H
    cases (show none = some r from H)
  | succ n ih =>
    intro x1 s2 r H kx
    have H : (
    if (s2 2 0) ≤ x1 then
      some (x1, s2)
    else
      if jin x1 12 then
      if jin x1 12 then
      jlet (va_up s2 5 (upd (s2 5) x1.toNatClampNeg (s2 4 x1.toNatClampNeg))) fun s5 =>
      jlet (x1 + 1) fun x8 =>
      L_Mod_divide_2 n x8 s5
      else none
      else none) = some r := H
    refine j_iload_n (pc := 2) 1 (jd k_Mod_divide 2 rfl) rfl ?_
    refine j_aload_n (pc := 3) 0 (jd k_Mod_divide 3 rfl) rfl ?_
    refine j_get (pc := 4) (fs := flR ad s2) (v := .int (s2 2 0)) fl_Mod_184_10 0 (jd k_Mod_divide 4 rfl) rfl rfl ?_
    refine j_icmp_ge (pc := 7) (tgt := 28) (jd k_Mod_divide 5 rfl) rfl (fun h3 => ?_) (fun h3 => ?_)
    · rw [if_pos h3] at H
      cases H
      exact kx
    · rw [if_neg h3] at H
      refine j_aload_n (pc := 10) 0 (jd k_Mod_divide 6 rfl) rfl ?_
      refine j_get (pc := 11) (fs := flR ad s2) (v := .ref (ad 3)) fl_Mod_16_10 0 (jd k_Mod_divide 7 rfl) rfl rfl ?_
      refine j_iload_n (pc := 14) 1 (jd k_Mod_divide 8 rfl) rfl ?_
      refine j_aload_n (pc := 15) 0 (jd k_Mod_divide 9 rfl) rfl ?_
      refine j_get (pc := 16) (fs := flR ad s2) (v := .ref (ad 2)) fl_Mod_13_10 0 (jd k_Mod_divide 10 rfl) rfl rfl ?_
      refine j_iload_n (pc := 19) 1 (jd k_Mod_divide 11 rfl) rfl ?_
      obtain ⟨h4, H⟩ := ochk H
      refine j_iald (pc := 20) (f := s2 4) 2 (jd k_Mod_divide 12 rfl) rfl (jin.vp h4) ?_
      obtain ⟨h7, H⟩ := ochk H
      obtain ⟨s5, e6, H⟩ := olet H
      refine j_iast (pc := 21) (f := s2 5) 3 (jd k_Mod_divide 13 rfl) rfl (jin.vp h7) ((waR_5 ad G s2 _).trans (congrArg (mkR ad G) e6)) ?_
      obtain ⟨x8, e9, H⟩ := olet H
      refine j_iinc (pc := 22) (lv' := [(0, .ref (ad 0)), (1, .int x8)]) 1 (jd k_Mod_divide 14 rfl) rfl e9 rfl (Nat.le_of_ble_eq_true rfl) rfl ?_
      refine j_goto (pc := 25) (tgt := 2) (jd k_Mod_divide 15 rfl) rfl ?_
      exact ih x8 s5 _ H kx

set_option maxRecDepth 20000 in
theorem c_Mod_divide (ad : Nat → Nat) (G : jG) (s : jS) (r : jS) (H : f_Mod_divide s = some r) : jCon G m_Mod_divide y_Mod_divide 3 0 0 [.ref (ad 0)] (mkR ad G s) (jEq none (mkR ad G r)) := by
  refine jCon.of (by decide +kernel) rfl rfl rfl (Nat.le_of_ble_eq_true rfl) rfl ?_
  have H : (
  Option.bind (L_Mod_divide_2 jF 0 s) fun (x10, s11) =>
  Option.bind (L_Mod_divide_30 jF 1 s11) fun (x41, s42) =>
  some s42) = some r := H
  generalize hP9 : jEq none (mkR ad G r) = P
  refine j_iconst (pc := 0) (v := 0) (jd k_Mod_divide 0 rfl) (by decide) ?_
  refine j_istore_n (pc := 1) (lv' := [(0, .ref (ad 0)), (1, .int 0)]) (jd k_Mod_divide 1 rfl) rfl (Nat.le_of_ble_eq_true rfl) rfl ?_
  obtain ⟨⟨x10, s11⟩, h12, H⟩ := obnd H
  try dsimp only at H
  refine lp_Mod_divide_2  jF 0 s _ h12 ?_
  refine j_pick (lv' := [(0, .ref (ad 0))]) [0] rfl ?_
  refine j_iconst (pc := 28) (v := 1) (jd k_Mod_divide 16 rfl) (by decide) ?_
  refine j_istore_n (pc := 29) (lv' := [(0, .ref (ad 0)), (1, .int 1)]) (jd k_Mod_divide 17 rfl) rfl (Nat.le_of_ble_eq_true rfl) rfl ?_
  obtain ⟨⟨x41, s42⟩, h43, H⟩ := obnd H
  try dsimp only at H
  refine lp_Mod_divide_30  jF 1 s11 _ h43 ?_
  refine j_pick (lv' := []) [] rfl ?_
  cases H
  subst hP9
  exact j_vret (pc := 117) (jd k_Mod_divide 67 rfl) rfl ⟨rfl, rfl⟩

set_option maxRecDepth 20000 in
theorem c_Mod_plus (G : jG) (ws : va_W) (p0 : Int32) (p1 : Int32) (p2 : Int32) (r : Int32) (H : f_Mod_plus p0 p1 p2 = some r) : jCon G m_Mod_plus y_Mod_plus 1 0 0 [.int p0, .int p1, .int p2] ws (jEq (some (.int r)) ws) := by
  refine jCon.of (by decide +kernel) rfl rfl rfl (Nat.le_of_ble_eq_true rfl) rfl ?_
  have H : (
  Option.bind (α := Int32) (
    if ¬ p0 = 0 then
      Option.bind (f_Mod_order p0) fun x2 =>
      if ¬ x2 = 0 then
      some (jrem (p1 + p2) x2)
      else none
    else
      some (p1 ^^^ p2)) fun x5 =>
  some x5) = some r := H
  generalize hP9 : jEq (some (.int r)) ws = P
  refine j_iload_n (pc := 0) 0 (jd k_Mod_plus 0 rfl) rfl ?_
  obtain ⟨x5, h6, H⟩ := obnd H
  have K7 : J G m_Mod_plus 1 0 0 P 18 [] [.int x5] ws 0 0 := by
    cases H
    subst hP9
    exact j_iret (pc := 18) (jd k_Mod_plus 12 rfl) rfl rfl ⟨rfl, rfl⟩
  have H := h6
  refine j_if_ne (pc := 1) (tgt := 10) (jd k_Mod_plus 1 rfl) rfl (fun h1 => ?_) (fun h1 => ?_)
  · rw [if_pos h1] at H
    refine j_iload_n (pc := 10) 1 (jd k_Mod_plus 6 rfl) rfl ?_
    refine j_iload_n (pc := 11) 2 (jd k_Mod_plus 7 rfl) rfl ?_
    refine j_iadd (pc := 12) (jd k_Mod_plus 8 rfl) ?_
    refine j_iload_n (pc := 13) 0 (jd k_Mod_plus 9 rfl) rfl ?_
    obtain ⟨x2, h3, H⟩ := obnd H
    refine jc_S (pc := 14) (st := [.int (p1 + p2)]) (c_Mod_order G _ p0 _ h3) L0_Mod_order w1285 w1286 (jd k_Mod_plus 10 rfl) rfl (Nat.le_of_ble_eq_true rfl) (by decide) (Nat.le_refl _) (Nat.le_refl _) rfl rfl ?_
    obtain ⟨h4, H⟩ := ochk H
    refine j_irem (pc := 17) (jd k_Mod_plus 11 rfl) h4 ?_
    cases H
    exact j_pick [] rfl K7
  · rw [if_neg (not_not_intro h1)] at H
    refine j_iload_n (pc := 4) 1 (jd k_Mod_plus 2 rfl) rfl ?_
    refine j_iload_n (pc := 5) 2 (jd k_Mod_plus 3 rfl) rfl ?_
    refine j_ixor (pc := 6) (jd k_Mod_plus 4 rfl) ?_
    refine j_goto (pc := 7) (tgt := 18) (jd k_Mod_plus 5 rfl) rfl ?_
    cases H
    exact j_pick [] rfl K7

set_option maxRecDepth 20000 in
theorem lp_Mod_combine_53 {ad : Nat → Nat} {G : jG} {P : jR → va_W → Prop} (p0 : Int32) (s11 : jS) : ∀ (n : Nat) (x14 : Int32) (x15 : Int32) (r : Int32 × Int32), L_Mod_combine_53 p0 s11 n x14 x15 = some r → J G m_Mod_combine 4 0 0 P 99 [(0, .ref (ad 0)), (1, .int p0), (2, .int r.1), (3, .int r.2)] [] (mkR ad G s11) 0 0 → J G m_Mod_combine 4 0 0 P 53 [(0, .ref (ad 0)), (1, .int p0), (2, .int x14), (3, .int x15)] [] (mkR ad G s11) 0 0 := by
  intro n
  induction n with
  | zero =>
    intro x14 x15 r H
    cases (show none = some r from H)
  | succ n ih =>
    intro x14 x15 r H kx
    have H : (
    if x15 < 0 then
      some (x14, x15)
    else
      if jin x15 12 then
      Option.bind (f_Mod_less (s11 1 0) p0 (s11 3 x15.toNatClampNeg)) fun x18 =>
      Option.bind (f_Mod_times (s11 1 0) x14 x18) fun x20 =>
      if jin x15 12 then
      Option.bind (f_Mod_plus (s11 1 0) x20 (s11 5 x15.toNatClampNeg)) fun x23 =>
      jlet (x15 + (-1)) fun x25 =>
      L_Mod_combine_53 p0 s11 n x23 x25
      else none
      else none) = some r := H
    refine j_iload_n (pc := 53) 3 (jd k_Mod_combine 29 rfl) rfl ?_
    refine j_if_lt (pc := 54) (tgt := 99) (jd k_Mod_combine 30 rfl) rfl (fun h16 => ?_) (fun h16 => ?_)
    · rw [if_pos h16] at H
      cases H
      exact kx
    · rw [if_neg h16] at H
      refine j_aload_n (pc := 57) 0 (jd k_Mod_combine 31 rfl) rfl ?_
      refine j_get (pc := 58) (fs := flR ad s11) (v := .int (s11 1 0)) fl_Mod_181_10 0 (jd k_Mod_combine 32 rfl) rfl rfl ?_
      refine j_aload_n (pc := 61) 0 (jd k_Mod_combine 33 rfl) rfl ?_
      refine j_get (pc := 62) (fs := flR ad s11) (v := .int (s11 1 0)) fl_Mod_181_10 0 (jd k_Mod_combine 34 rfl) rfl rfl ?_
      refine j_iload_n (pc := 65) 2 (jd k_Mod_combine 35 rfl) rfl ?_
      refine j_aload_n (pc := 66) 0 (jd k_Mod_combine 36 rfl) rfl ?_
      refine j_get (pc := 67) (fs := flR ad s11) (v := .int (s11 1 0)) fl_Mod_181_10 0 (jd k_Mod_combine 37 rfl) rfl rfl ?_
      refine j_iload_n (pc := 70) 1 (jd k_Mod_combine 38 rfl) rfl ?_
      refine j_aload_n (pc := 71) 0 (jd k_Mod_combine 39 rfl) rfl ?_
      refine j_get (pc := 72) (fs := flR ad s11) (v := .ref (ad 1)) fl_Mod_7_10 0 (jd k_Mod_combine 40 rfl) rfl rfl ?_
      refine j_iload_n (pc := 75) 3 (jd k_Mod_combine 41 rfl) rfl ?_
      obtain ⟨h17, H⟩ := ochk H
      refine j_iald (pc := 76) (f := s11 3) 1 (jd k_Mod_combine 42 rfl) rfl (jin.vp h17) ?_
      obtain ⟨x18, h19, H⟩ := obnd H
      refine jc_S (pc := 77) (st := [.int x14, .int (s11 1 0), .int (s11 1 0)]) (c_Mod_less G _ (s11 1 0) p0 (s11 3 x15.toNatClampNeg) _ h19) L0_Mod_less w1296 w1297 (jd k_Mod_combine 43 rfl) rfl (Nat.le_of_ble_eq_true rfl) (by decide) (Nat.le_refl _) (Nat.le_refl _) rfl rfl ?_
      obtain ⟨x20, h21, H⟩ := obnd H
      refine jc_S (pc := 80) (st := [.int (s11 1 0)]) (c_Mod_times G _ (s11 1 0) x14 x18 _ h21) L0_Mod_times w1302 w1303 (jd k_Mod_combine 44 rfl) rfl (Nat.le_of_ble_eq_true rfl) (by decide) (Nat.le_refl _) (Nat.le_refl _) rfl rfl ?_
      refine j_aload_n (pc := 83) 0 (jd k_Mod_combine 45 rfl) rfl ?_
      refine j_get (pc := 84) (fs := flR ad s11) (v := .ref (ad 3)) fl_Mod_16_10 0 (jd k_Mod_combine 46 rfl) rfl rfl ?_
      refine j_iload_n (pc := 87) 3 (jd k_Mod_combine 47 rfl) rfl ?_
      obtain ⟨h22, H⟩ := ochk H
      refine j_iald (pc := 88) (f := s11 5) 3 (jd k_Mod_combine 48 rfl) rfl (jin.vp h22) ?_
      obtain ⟨x23, h24, H⟩ := obnd H
      refine jc_S (pc := 89) (st := []) (c_Mod_plus G _ (s11 1 0) x20 (s11 5 x15.toNatClampNeg) _ h24) L0_Mod_plus w1305 w1306 (jd k_Mod_combine 49 rfl) rfl (Nat.le_of_ble_eq_true rfl) (by decide) (Nat.le_refl _) (Nat.le_refl _) rfl rfl ?_
      refine j_istore_n (pc := 92) (lv' := [(0, .ref (ad 0)), (1, .int p0), (2, .int x23), (3, .int x15)]) (jd k_Mod_combine 50 rfl) rfl (Nat.le_of_ble_eq_true rfl) rfl ?_
      obtain ⟨x25, e26, H⟩ := olet H
      refine j_iinc (pc := 93) (lv' := [(0, .ref (ad 0)), (1, .int p0), (2, .int x23), (3, .int x25)]) 3 (jd k_Mod_combine 51 rfl) rfl e26 rfl (Nat.le_of_ble_eq_true rfl) rfl ?_
      refine j_goto (pc := 96) (tgt := 53) (jd k_Mod_combine 52 rfl) rfl ?_
      exact ih x23 x25 _ H kx

set_option maxRecDepth 20000 in
theorem c_Mod_combine (ad : Nat → Nat) (G : jG) (p0 : Int32) (s : jS) (r : Int32 × jS) (H : f_Mod_combine p0 s = some r) : jCon G m_Mod_combine y_Mod_combine 4 0 0 [.ref (ad 0), .int p0] (mkR ad G s) (jEq (some (.int r.1)) (mkR ad G r.2)) := by
  refine jCon.of (by decide +kernel) rfl rfl rfl (Nat.le_of_ble_eq_true rfl) rfl ?_
  have H : (
  Option.bind (f_Mod_isElement (s 1 0) p0) fun x1 =>
  Option.bind (α := Int32) (
    if ¬ x1 = 0 then
      if ¬ (s 2 0) = 0 then
        some 0
      else
        some 2
    else
      some 1) fun x5 =>
  jlet (va_up s 0 (fun _ => x5)) fun s8 =>
  if (s8 0 0) ≤ 0 then
    Option.bind (f_Mod_divide s8) fun s11 =>
    jlet ((s11 2 0) - 1) fun x13 =>
    Option.bind (L_Mod_combine_53 p0 s11 jF 0 x13) fun (x27, x28) =>
    some (x27, s11)
  else
    some (0, s8)) = some r := H
  generalize hP9 : jEq (some (.int r.1)) (mkR ad G r.2) = P
  refine j_aload_n (pc := 0) 0 (jd k_Mod_combine 0 rfl) rfl ?_
  refine j_aload_n (pc := 1) 0 (jd k_Mod_combine 1 rfl) rfl ?_
  refine j_get (pc := 2) (fs := flR ad s) (v := .int (s 1 0)) fl_Mod_181_10 0 (jd k_Mod_combine 2 rfl) rfl rfl ?_
  refine j_iload_n (pc := 5) 1 (jd k_Mod_combine 3 rfl) rfl ?_
  obtain ⟨x1, h2, H⟩ := obnd H
  refine jc_S (pc := 6) (st := [.ref (ad 0)]) (c_Mod_isElement G _ (s 1 0) p0 _ h2) L0_Mod_isElement w1282 w1283 (jd k_Mod_combine 4 rfl) rfl (Nat.le_of_ble_eq_true rfl) (by decide) (Nat.le_refl _) (Nat.le_refl _) rfl rfl ?_
  obtain ⟨x5, h6, H⟩ := obnd H
  have K7 : J G m_Mod_combine 4 0 0 P 28 [(0, .ref (ad 0)), (1, .int p0)] [.int x5, .ref (ad 0)] (mkR ad G s) 0 0 := by
    obtain ⟨s8, e9, H⟩ := olet H
    refine j_put (pc := 28) (fs := flR ad s) (fp_Mod_170_10 _) 0 (jd k_Mod_combine 14 rfl) rfl rfl rfl (Nat.le_of_ble_eq_true rfl) ((wpR_0 ad G s _).trans (congrArg (mkR ad G) e9)) ?_
    refine j_aload_n (pc := 31) 0 (jd k_Mod_combine 15 rfl) rfl ?_
    refine j_get (pc := 32) (fs := flR ad s8) (v := .int (s8 0 0)) fl_Mod_170_10 0 (jd k_Mod_combine 16 rfl) rfl rfl ?_
    refine j_if_le (pc := 35) (tgt := 40) (jd k_Mod_combine 17 rfl) rfl (fun h10 => ?_) (fun h10 => ?_)
    · rw [if_pos h10] at H
      refine j_aload_n (pc := 40) 0 (jd k_Mod_combine 20 rfl) rfl ?_
      obtain ⟨s11, h12, H⟩ := obnd H
      refine jc_V (pc := 41) (st := []) (c_Mod_divide ad G s8 _ h12) L0_Mod_divide w1292 w1294 w34 0 rfl rfl (jd k_Mod_combine 21 rfl) rfl (Nat.le_of_ble_eq_true rfl) (by decide) (Nat.le_refl _) (Nat.le_refl _) rfl rfl ?_
      refine j_iconst (pc := 44) (v := 0) (jd k_Mod_combine 22 rfl) (by decide) ?_
      refine j_istore_n (pc := 45) (lv' := [(0, .ref (ad 0)), (1, .int p0), (2, .int 0)]) (jd k_Mod_combine 23 rfl) rfl (Nat.le_of_ble_eq_true rfl) rfl ?_
      refine j_aload_n (pc := 46) 0 (jd k_Mod_combine 24 rfl) rfl ?_
      refine j_get (pc := 47) (fs := flR ad s11) (v := .int (s11 2 0)) fl_Mod_184_10 0 (jd k_Mod_combine 25 rfl) rfl rfl ?_
      refine j_iconst (pc := 50) (v := 1) (jd k_Mod_combine 26 rfl) (by decide) ?_
      refine j_isub (pc := 51) (jd k_Mod_combine 27 rfl) ?_
      obtain ⟨x13, e30, H⟩ := olet H
      refine j_topi e30 ?_
      refine j_istore_n (pc := 52) (lv' := [(0, .ref (ad 0)), (1, .int p0), (2, .int 0), (3, .int x13)]) (jd k_Mod_combine 28 rfl) rfl (Nat.le_of_ble_eq_true rfl) rfl ?_
      obtain ⟨⟨x27, x28⟩, h29, H⟩ := obnd H
      try dsimp only at H
      refine lp_Mod_combine_53 p0 s11 jF 0 x13 _ h29 ?_
      refine j_pick (lv' := [(2, .int x27)]) [2] rfl ?_
      refine j_iload_n (pc := 99) 0 (jd k_Mod_combine 53 rfl) rfl ?_
      cases H
      subst hP9
      exact j_iret (pc := 100) (jd k_Mod_combine 54 rfl) rfl rfl ⟨rfl, rfl⟩
    · rw [if_neg h10] at H
      refine j_iconst (pc := 38) (v := 0) (jd k_Mod_combine 18 rfl) (by decide) ?_
      cases H
      subst hP9
      exact j_iret (pc := 39) (jd k_Mod_combine 19 rfl) rfl rfl ⟨rfl, rfl⟩
  have H := h6
  refine j_if_ne (pc := 9) (tgt := 16) (jd k_Mod_combine 5 rfl) rfl (fun h3 => ?_) (fun h3 => ?_)
  · rw [if_pos h3] at H
    refine j_aload_n (pc := 16) 0 (jd k_Mod_combine 8 rfl) rfl ?_
    refine j_get (pc := 17) (fs := flR ad s) (v := .int (s 2 0)) fl_Mod_184_10 0 (jd k_Mod_combine 9 rfl) rfl rfl ?_
    refine j_if_ne (pc := 20) (tgt := 27) (jd k_Mod_combine 10 rfl) rfl (fun h4 => ?_) (fun h4 => ?_)
    · rw [if_pos h4] at H
      refine j_iconst (pc := 27) (v := 0) (jd k_Mod_combine 13 rfl) (by decide) ?_
      cases H
      exact K7
    · rw [if_neg (not_not_intro h4)] at H
      refine j_iconst (pc := 23) (v := 2) (jd k_Mod_combine 11 rfl) (by decide) ?_
      refine j_goto (pc := 24) (tgt := 28) (jd k_Mod_combine 12 rfl) rfl ?_
      cases H
      exact K7
  · rw [if_neg (not_not_intro h3)] at H
    refine j_iconst (pc := 12) (v := 1) (jd k_Mod_combine 6 rfl) (by decide) ?_
    refine j_goto (pc := 13) (tgt := 28) (jd k_Mod_combine 7 rfl) rfl ?_
    cases H
    exact K7

set_option maxRecDepth 20000 in
theorem lp_Mod_degree_14 {ad : Nat → Nat} {G : jG} {P : jR → va_W → Prop} (s3 : jS) : ∀ (n : Nat) (x6 : Int32) (r : Int32), L_Mod_degree_14 s3 n x6 = some r → J G m_Mod_degree 4 0 0 P 35 [(0, .ref (ad 0)), (1, .int r)] [] (mkR ad G s3) 0 0 → J G m_Mod_degree 4 0 0 P 14 [(0, .ref (ad 0)), (1, .int x6)] [] (mkR ad G s3) 0 0 := by
  intro n
  induction n with
  | zero =>
    intro x6 r H
    cases (show none = some r from H)
  | succ n ih =>
    intro x6 r H kx
    have H : (
    if x6 ≤ 0 then
      some x6
    else
      if jin (x6 - 1) 12 then
      if ¬ (s3 5 (x6 - 1).toNatClampNeg) = 0 then
        some x6
      else
        jlet (x6 + (-1)) fun x10 =>
        L_Mod_degree_14 s3 n x10
      else none) = some r := H
    refine j_iload_n (pc := 14) 1 (jd k_Mod_degree 8 rfl) rfl ?_
    refine j_if_le (pc := 15) (tgt := 35) (jd k_Mod_degree 9 rfl) rfl (fun h7 => ?_) (fun h7 => ?_)
    · rw [if_pos h7] at H
      cases H
      exact kx
    · rw [if_neg h7] at H
      refine j_aload_n (pc := 18) 0 (jd k_Mod_degree 10 rfl) rfl ?_
      refine j_get (pc := 19) (fs := flR ad s3) (v := .ref (ad 3)) fl_Mod_16_10 0 (jd k_Mod_degree 11 rfl) rfl rfl ?_
      refine j_iload_n (pc := 22) 1 (jd k_Mod_degree 12 rfl) rfl ?_
      refine j_iconst (pc := 23) (v := 1) (jd k_Mod_degree 13 rfl) (by decide) ?_
      refine j_isub (pc := 24) (jd k_Mod_degree 14 rfl) ?_
      obtain ⟨h8, H⟩ := ochk H
      refine j_iald (pc := 25) (f := s3 5) 3 (jd k_Mod_degree 15 rfl) rfl (jin.vp h8) ?_
      refine j_if_ne (pc := 26) (tgt := 35) (jd k_Mod_degree 16 rfl) rfl (fun h9 => ?_) (fun h9 => ?_)
      · rw [if_pos h9] at H
        cases H
        exact kx
      · rw [if_neg (not_not_intro h9)] at H
        obtain ⟨x10, e11, H⟩ := olet H
        refine j_iinc (pc := 29) (lv' := [(0, .ref (ad 0)), (1, .int x10)]) 1 (jd k_Mod_degree 17 rfl) rfl e11 rfl (Nat.le_of_ble_eq_true rfl) rfl ?_
        refine j_goto (pc := 32) (tgt := 14) (jd k_Mod_degree 18 rfl) rfl ?_
        exact ih x10 _ H kx

set_option maxRecDepth 20000 in
theorem c_Mod_degree (ad : Nat → Nat) (G : jG) (s : jS) (r : Int32 × jS) (H : f_Mod_degree s = some r) : jCon G m_Mod_degree y_Mod_degree 4 0 0 [.ref (ad 0)] (mkR ad G s) (jEq (some (.int r.1)) (mkR ad G r.2)) := by
  refine jCon.of (by decide +kernel) rfl rfl rfl (Nat.le_of_ble_eq_true rfl) rfl ?_
  have H : (
  jlet (va_up s 0 (fun _ => 0)) fun s1 =>
  Option.bind (f_Mod_divide s1) fun s3 =>
  jlet (s3 2 0) fun x5 =>
  Option.bind (L_Mod_degree_14 s3 jF x5) fun x12 =>
  some (x12, s3)) = some r := H
  generalize hP9 : jEq (some (.int r.1)) (mkR ad G r.2) = P
  refine j_aload_n (pc := 0) 0 (jd k_Mod_degree 0 rfl) rfl ?_
  refine j_iconst (pc := 1) (v := 0) (jd k_Mod_degree 1 rfl) (by decide) ?_
  obtain ⟨s1, e2, H⟩ := olet H
  refine j_put (pc := 2) (fs := flR ad s) (fp_Mod_170_10 _) 0 (jd k_Mod_degree 2 rfl) rfl rfl rfl (Nat.le_of_ble_eq_true rfl) ((wpR_0 ad G s _).trans (congrArg (mkR ad G) e2)) ?_
  refine j_aload_n (pc := 5) 0 (jd k_Mod_degree 3 rfl) rfl ?_
  obtain ⟨s3, h4, H⟩ := obnd H
  refine jc_V (pc := 6) (st := []) (c_Mod_divide ad G s1 _ h4) L0_Mod_divide w1292 w1294 w34 0 rfl rfl (jd k_Mod_degree 4 rfl) rfl (Nat.le_of_ble_eq_true rfl) (by decide) (Nat.le_refl _) (Nat.le_refl _) rfl rfl ?_
  refine j_aload_n (pc := 9) 0 (jd k_Mod_degree 5 rfl) rfl ?_
  refine j_get (pc := 10) (fs := flR ad s3) (v := .int (s3 2 0)) fl_Mod_184_10 0 (jd k_Mod_degree 6 rfl) rfl rfl ?_
  obtain ⟨x5, e14, H⟩ := olet H
  refine j_topi e14 ?_
  refine j_istore_n (pc := 13) (lv' := [(0, .ref (ad 0)), (1, .int x5)]) (jd k_Mod_degree 7 rfl) rfl (Nat.le_of_ble_eq_true rfl) rfl ?_
  obtain ⟨x12, h13, H⟩ := obnd H
  refine lp_Mod_degree_14 s3 jF x5 _ h13 ?_
  refine j_pick (lv' := [(1, .int x12)]) [1] rfl ?_
  refine j_iload_n (pc := 35) 0 (jd k_Mod_degree 19 rfl) rfl ?_
  cases H
  subst hP9
  exact j_iret (pc := 36) (jd k_Mod_degree 20 rfl) rfl rfl ⟨rfl, rfl⟩

set_option maxRecDepth 20000 in
theorem lp_Mod_forget_37 {ad : Nat → Nat} {G : jG} {P : jR → va_W → Prop} : ∀ (n : Nat) (x18 : Int32) (s19 : jS) (r : Int32 × jS), L_Mod_forget_37 n x18 s19 = some r → J G m_Mod_forget 0 0 0 P 57 [(0, .ref (ad 0)), (1, .int r.1)] [] (mkR ad G r.2) 0 0 → J G m_Mod_forget 0 0 0 P 37 [(0, .ref (ad 0)), (1, .int x18)] [] (mkR ad G s19) 0 0 := by
  intro n
  induction n with
  | zero =>
    intro x18 s19 r H
    cases (show none = some r from H)
  | succ n ih =>
    intro x18 s19 r H kx
    have H : (
    if 7 ≤ x18 then
      some (x18, s19)
    else
      if jin x18 7 then
      jlet (va_up s19 22 (upd (s19 22) x18.toNatClampNeg 8)) fun s21 =>
      jlet (x18 + 1) fun x24 =>
      L_Mod_forget_37 n x24 s21
      else none) = some r := H
    refine j_iload_n (pc := 37) 1 (jd k_Mod_forget 24 rfl) rfl ?_
    refine j_bipush (pc := 38) (v := 7) (jd k_Mod_forget 25 rfl) (by decide) ?_
    refine j_icmp_ge (pc := 40) (tgt := 57) (jd k_Mod_forget 26 rfl) rfl (fun h20 => ?_) (fun h20 => ?_)
    · rw [if_pos h20] at H
      cases H
      exact kx
    · rw [if_neg h20] at H
      refine j_aload_n (pc := 43) 0 (jd k_Mod_forget 27 rfl) rfl ?_
      refine j_get (pc := 44) (fs := flR ad s19) (v := .ref (ad 10)) fl_Mod_37_10 0 (jd k_Mod_forget 28 rfl) rfl rfl ?_
      refine j_iload_n (pc := 47) 1 (jd k_Mod_forget 29 rfl) rfl ?_
      refine j_bipush (pc := 48) (v := 8) (jd k_Mod_forget 30 rfl) (by decide) ?_
      obtain ⟨h23, H⟩ := ochk H
      obtain ⟨s21, e22, H⟩ := olet H
      refine j_iast (pc := 50) (f := s19 22) 10 (jd k_Mod_forget 31 rfl) rfl (jin.vp h23) ((waR_22 ad G s19 _).trans (congrArg (mkR ad G) e22)) ?_
      obtain ⟨x24, e25, H⟩ := olet H
      refine j_iinc (pc := 51) (lv' := [(0, .ref (ad 0)), (1, .int x24)]) 1 (jd k_Mod_forget 32 rfl) rfl e25 rfl (Nat.le_of_ble_eq_true rfl) rfl ?_
      refine j_goto (pc := 54) (tgt := 37) (jd k_Mod_forget 33 rfl) rfl ?_
      exact ih x24 s21 _ H kx

set_option maxRecDepth 20000 in
theorem lp_Mod_forget_2 {ad : Nat → Nat} {G : jG} {P : jR → va_W → Prop} : ∀ (n : Nat) (x1 : Int32) (s2 : jS) (r : Int32 × jS), L_Mod_forget_2 n x1 s2 = some r → J G m_Mod_forget 0 0 0 P 35 [(0, .ref (ad 0)), (1, .int r.1)] [] (mkR ad G r.2) 0 0 → J G m_Mod_forget 0 0 0 P 2 [(0, .ref (ad 0)), (1, .int x1)] [] (mkR ad G s2) 0 0 := by
  intro n
  induction n with
  | zero =>
    intro x1 s2 r H
    cases (show none = some r from H)
  | succ n ih =>
    intro x1 s2 r H kx
    have H : (
    if 49 ≤ x1 then
      some (x1, s2)
    else
      if jin x1 49 then
      jlet (va_up s2 19 (upd (s2 19) x1.toNatClampNeg 0)) fun s4 =>
      if jin x1 49 then
      jlet (va_up s4 20 (upd (s4 20) x1.toNatClampNeg 0)) fun s7 =>
      if jin x1 49 then
      jlet (va_up s7 21 (upd (s7 21) x1.toNatClampNeg 0)) fun s10 =>
      jlet (x1 + 1) fun x13 =>
      L_Mod_forget_2 n x13 s10
      else none
      else none
      else none) = some r := H
    refine j_iload_n (pc := 2) 1 (jd k_Mod_forget 2 rfl) rfl ?_
    refine j_bipush (pc := 3) (v := 49) (jd k_Mod_forget 3 rfl) (by decide) ?_
    refine j_icmp_ge (pc := 5) (tgt := 35) (jd k_Mod_forget 4 rfl) rfl (fun h3 => ?_) (fun h3 => ?_)
    · rw [if_pos h3] at H
      cases H
      exact kx
    · rw [if_neg h3] at H
      refine j_aload_n (pc := 8) 0 (jd k_Mod_forget 5 rfl) rfl ?_
      refine j_get (pc := 9) (fs := flR ad s2) (v := .ref (ad 7)) fl_Mod_28_10 0 (jd k_Mod_forget 6 rfl) rfl rfl ?_
      refine j_iload_n (pc := 12) 1 (jd k_Mod_forget 7 rfl) rfl ?_
      refine j_iconst (pc := 13) (v := 0) (jd k_Mod_forget 8 rfl) (by decide) ?_
      obtain ⟨h6, H⟩ := ochk H
      obtain ⟨s4, e5, H⟩ := olet H
      refine j_iast (pc := 14) (f := s2 19) 7 (jd k_Mod_forget 9 rfl) rfl (jin.vp h6) ((waR_19 ad G s2 _).trans (congrArg (mkR ad G) e5)) ?_
      refine j_aload_n (pc := 15) 0 (jd k_Mod_forget 10 rfl) rfl ?_
      refine j_get (pc := 16) (fs := flR ad s4) (v := .ref (ad 8)) fl_Mod_31_10 0 (jd k_Mod_forget 11 rfl) rfl rfl ?_
      refine j_iload_n (pc := 19) 1 (jd k_Mod_forget 12 rfl) rfl ?_
      refine j_iconst (pc := 20) (v := 0) (jd k_Mod_forget 13 rfl) (by decide) ?_
      obtain ⟨h9, H⟩ := ochk H
      obtain ⟨s7, e8, H⟩ := olet H
      refine j_iast (pc := 21) (f := s4 20) 8 (jd k_Mod_forget 14 rfl) rfl (jin.vp h9) ((waR_20 ad G s4 _).trans (congrArg (mkR ad G) e8)) ?_
      refine j_aload_n (pc := 22) 0 (jd k_Mod_forget 15 rfl) rfl ?_
      refine j_get (pc := 23) (fs := flR ad s7) (v := .ref (ad 9)) fl_Mod_34_10 0 (jd k_Mod_forget 16 rfl) rfl rfl ?_
      refine j_iload_n (pc := 26) 1 (jd k_Mod_forget 17 rfl) rfl ?_
      refine j_iconst (pc := 27) (v := 0) (jd k_Mod_forget 18 rfl) (by decide) ?_
      obtain ⟨h12, H⟩ := ochk H
      obtain ⟨s10, e11, H⟩ := olet H
      refine j_iast (pc := 28) (f := s7 21) 9 (jd k_Mod_forget 19 rfl) rfl (jin.vp h12) ((waR_21 ad G s7 _).trans (congrArg (mkR ad G) e11)) ?_
      obtain ⟨x13, e14, H⟩ := olet H
      refine j_iinc (pc := 29) (lv' := [(0, .ref (ad 0)), (1, .int x13)]) 1 (jd k_Mod_forget 20 rfl) rfl e14 rfl (Nat.le_of_ble_eq_true rfl) rfl ?_
      refine j_goto (pc := 32) (tgt := 2) (jd k_Mod_forget 21 rfl) rfl ?_
      exact ih x13 s10 _ H kx

set_option maxRecDepth 20000 in
theorem c_Mod_forget (ad : Nat → Nat) (G : jG) (s : jS) (r : jS) (H : f_Mod_forget s = some r) : jCon G m_Mod_forget y_Mod_forget 0 0 0 [.ref (ad 0)] (mkR ad G s) (jEq none (mkR ad G r)) := by
  refine jCon.of (by decide +kernel) rfl rfl rfl (Nat.le_of_ble_eq_true rfl) rfl ?_
  have H : (
  Option.bind (L_Mod_forget_2 jF 0 s) fun (x15, s16) =>
  Option.bind (L_Mod_forget_37 jF 0 s16) fun (x26, s27) =>
  some s27) = some r := H
  generalize hP9 : jEq none (mkR ad G r) = P
  refine j_iconst (pc := 0) (v := 0) (jd k_Mod_forget 0 rfl) (by decide) ?_
  refine j_istore_n (pc := 1) (lv' := [(0, .ref (ad 0)), (1, .int 0)]) (jd k_Mod_forget 1 rfl) rfl (Nat.le_of_ble_eq_true rfl) rfl ?_
  obtain ⟨⟨x15, s16⟩, h17, H⟩ := obnd H
  try dsimp only at H
  refine lp_Mod_forget_2  jF 0 s _ h17 ?_
  refine j_pick (lv' := [(0, .ref (ad 0))]) [0] rfl ?_
  refine j_iconst (pc := 35) (v := 0) (jd k_Mod_forget 22 rfl) (by decide) ?_
  refine j_istore_n (pc := 36) (lv' := [(0, .ref (ad 0)), (1, .int 0)]) (jd k_Mod_forget 23 rfl) rfl (Nat.le_of_ble_eq_true rfl) rfl ?_
  obtain ⟨⟨x26, s27⟩, h28, H⟩ := obnd H
  try dsimp only at H
  refine lp_Mod_forget_37  jF 0 s16 _ h28 ?_
  refine j_pick (lv' := []) [] rfl ?_
  cases H
  subst hP9
  exact j_vret (pc := 57) (jd k_Mod_forget 34 rfl) rfl ⟨rfl, rfl⟩

set_option maxRecDepth 20000 in
theorem lp_Mod_begin_150 {ad : Nat → Nat} {G : jG} {P : jR → va_W → Prop} : ∀ (n : Nat) (x49 : Int32) (s50 : jS) (r : Int32 × jS), L_Mod_begin_150 n x49 s50 = some r → J G m_Mod_begin 1 0 0 P 179 [(0, .ref (ad 0)), (4, .int r.1)] [] (mkR ad G r.2) 0 0 → J G m_Mod_begin 1 0 0 P 150 [(0, .ref (ad 0)), (4, .int x49)] [] (mkR ad G s50) 0 0 := by
  intro n
  induction n with
  | zero =>
    intro x49 s50 r H
    cases (show none = some r from H)
  | succ n ih =>
    intro x49 s50 r H kx
    have H : (
    if 7 ≤ x49 then
      some (x49, s50)
    else
      if jin x49 7 then
      jlet (va_up s50 28 (upd (s50 28) x49.toNatClampNeg 0)) fun s52 =>
      if jin x49 7 then
      jlet (va_up s52 29 (upd (s52 29) x49.toNatClampNeg 0)) fun s55 =>
      jlet (x49 + 1) fun x58 =>
      L_Mod_begin_150 n x58 s55
      else none
      else none) = some r := H
    refine j_iload (pc := 150) 1 (jd k_Mod_begin 83 rfl) rfl ?_
    refine j_bipush (pc := 152) (v := 7) (jd k_Mod_begin 84 rfl) (by decide) ?_
    refine j_icmp_ge (pc := 154) (tgt := 179) (jd k_Mod_begin 85 rfl) rfl (fun h51 => ?_) (fun h51 => ?_)
    · rw [if_pos h51] at H
      cases H
      exact kx
    · rw [if_neg h51] at H
      refine j_aload_n (pc := 157) 0 (jd k_Mod_begin 86 rfl) rfl ?_
      refine j_get (pc := 158) (fs := flR ad s50) (v := .ref (ad 11)) fl_Mod_40_10 0 (jd k_Mod_begin 87 rfl) rfl rfl ?_
      refine j_iload (pc := 161) 1 (jd k_Mod_begin 88 rfl) rfl ?_
      refine j_iconst (pc := 163) (v := 0) (jd k_Mod_begin 89 rfl) (by decide) ?_
      obtain ⟨h54, H⟩ := ochk H
      obtain ⟨s52, e53, H⟩ := olet H
      refine j_iast (pc := 164) (f := s50 28) 11 (jd k_Mod_begin 90 rfl) rfl (jin.vp h54) ((waR_28 ad G s50 _).trans (congrArg (mkR ad G) e53)) ?_
      refine j_aload_n (pc := 165) 0 (jd k_Mod_begin 91 rfl) rfl ?_
      refine j_get (pc := 166) (fs := flR ad s52) (v := .ref (ad 12)) fl_Mod_43_10 0 (jd k_Mod_begin 92 rfl) rfl rfl ?_
      refine j_iload (pc := 169) 1 (jd k_Mod_begin 93 rfl) rfl ?_
      refine j_iconst (pc := 171) (v := 0) (jd k_Mod_begin 94 rfl) (by decide) ?_
      obtain ⟨h57, H⟩ := ochk H
      obtain ⟨s55, e56, H⟩ := olet H
      refine j_iast (pc := 172) (f := s52 29) 12 (jd k_Mod_begin 95 rfl) rfl (jin.vp h57) ((waR_29 ad G s52 _).trans (congrArg (mkR ad G) e56)) ?_
      obtain ⟨x58, e59, H⟩ := olet H
      refine j_iinc (pc := 173) (lv' := [(0, .ref (ad 0)), (4, .int x58)]) 1 (jd k_Mod_begin 96 rfl) rfl e59 rfl (Nat.le_of_ble_eq_true rfl) rfl ?_
      refine j_goto (pc := 176) (tgt := 150) (jd k_Mod_begin 97 rfl) rfl ?_
      exact ih x58 s55 _ H kx

set_option maxRecDepth 20000 in
theorem c_Mod_begin (ad : Nat → Nat) (G : jG) (p0 : Int32) (p1 : Int32) (p2 : Int32) (s : jS) (r : jS) (H : f_Mod_begin p0 p1 p2 s = some r) : jCon G m_Mod_begin y_Mod_begin 1 0 0 [.ref (ad 0), .int p0, .int p1, .int p2] (mkR ad G s) (jEq none (mkR ad G r)) := by
  refine jCon.of (by decide +kernel) rfl rfl rfl (Nat.le_of_ble_eq_true rfl) rfl ?_
  have H : (
  Option.bind (α := Int32) (
    if p0 < 0 then
      some 1
    else
      if 1 < p0 then
        some 1
      else
        if p1 < 1 then
          some 1
        else
          if 7 < p1 then
            some 1
          else
            if p2 < 1 then
              some 1
            else
              if p2 ≤ p1 then
                some 0
              else
                some 1) fun x7 =>
  jlet (va_up s 0 (fun _ => x7)) fun s10 =>
  if (s10 0 0) ≤ 0 then
    jlet (va_up s10 9 (fun _ => p0)) fun s13 =>
    Option.bind (α := Int32) (
      if ¬ (s13 9 0) = 0 then
        some 31
      else
        some 1019) fun x16 =>
    jlet (va_up s13 10 (fun _ => x16)) fun s19 =>
    jlet (va_up s19 11 (fun _ => p1)) fun s21 =>
    jlet (va_up s21 12 (fun _ => p2)) fun s23 =>
    jlet (va_up s23 13 (fun _ => s23 11 0)) fun s25 =>
    jlet (va_up s25 14 (fun _ => s25 12 0)) fun s27 =>
    jlet (va_up s27 15 (fun _ => 1)) fun s29 =>
    jlet (va_up s29 16 (fun _ => 0)) fun s31 =>
    jlet (va_up s31 17 (fun _ => 0)) fun s33 =>
    jlet (va_up s33 18 (fun _ => 0)) fun s35 =>
    jlet (va_up s35 40 (fun _ => 0)) fun s37 =>
    jlet (va_up s37 23 (fun _ => 0)) fun s39 =>
    jlet (va_up s39 24 (fun _ => 0)) fun s41 =>
    jlet (va_up s41 25 (fun _ => 0)) fun s43 =>
    jlet (va_up s43 26 (fun _ => 0)) fun s45 =>
    jlet (va_up s45 27 (fun _ => 0)) fun s47 =>
    Option.bind (L_Mod_begin_150 jF 0 s47) fun (x60, s61) =>
    Option.bind (f_Mod_forget s61) fun s63 =>
    some s63
  else
    some s10) = some r := H
  generalize hP9 : jEq none (mkR ad G r) = P
  refine j_aload_n (pc := 0) 0 (jd k_Mod_begin 0 rfl) rfl ?_
  refine j_iload_n (pc := 1) 1 (jd k_Mod_begin 1 rfl) rfl ?_
  obtain ⟨x7, h8, H⟩ := obnd H
  have K9 : J G m_Mod_begin 1 0 0 P 36 [(0, .ref (ad 0)), (1, .int p0), (2, .int p1), (3, .int p2)] [.int x7, .ref (ad 0)] (mkR ad G s) 0 0 := by
    obtain ⟨s10, e11, H⟩ := olet H
    refine j_put (pc := 36) (fs := flR ad s) (fp_Mod_170_10 _) 0 (jd k_Mod_begin 21 rfl) rfl rfl rfl (Nat.le_of_ble_eq_true rfl) ((wpR_0 ad G s _).trans (congrArg (mkR ad G) e11)) ?_
    refine j_aload_n (pc := 39) 0 (jd k_Mod_begin 22 rfl) rfl ?_
    refine j_get (pc := 40) (fs := flR ad s10) (v := .int (s10 0 0)) fl_Mod_170_10 0 (jd k_Mod_begin 23 rfl) rfl rfl ?_
    refine j_if_le (pc := 43) (tgt := 47) (jd k_Mod_begin 24 rfl) rfl (fun h12 => ?_) (fun h12 => ?_)
    · rw [if_pos h12] at H
      refine j_aload_n (pc := 47) 0 (jd k_Mod_begin 26 rfl) rfl ?_
      refine j_iload_n (pc := 48) 1 (jd k_Mod_begin 27 rfl) rfl ?_
      obtain ⟨s13, e14, H⟩ := olet H
      refine j_put (pc := 49) (fs := flR ad s10) (fp_Mod_210_10 _) 0 (jd k_Mod_begin 28 rfl) rfl rfl rfl (Nat.le_of_ble_eq_true rfl) ((wpR_9 ad G s10 _).trans (congrArg (mkR ad G) e14)) ?_
      refine j_aload_n (pc := 52) 0 (jd k_Mod_begin 29 rfl) rfl ?_
      refine j_aload_n (pc := 53) 0 (jd k_Mod_begin 30 rfl) rfl ?_
      refine j_get (pc := 54) (fs := flR ad s13) (v := .int (s13 9 0)) fl_Mod_210_10 0 (jd k_Mod_begin 31 rfl) rfl rfl ?_
      obtain ⟨x16, h17, H⟩ := obnd H
      have K18 : J G m_Mod_begin 1 0 0 P 68 [(0, .ref (ad 0)), (2, .int p1), (3, .int p2)] [.int x16, .ref (ad 0)] (mkR ad G s13) 0 0 := by
        obtain ⟨s19, e20, H⟩ := olet H
        refine j_put (pc := 68) (fs := flR ad s13) (fp_Mod_213_10 _) 0 (jd k_Mod_begin 36 rfl) rfl rfl rfl (Nat.le_of_ble_eq_true rfl) ((wpR_10 ad G s13 _).trans (congrArg (mkR ad G) e20)) ?_
        refine j_aload_n (pc := 71) 0 (jd k_Mod_begin 37 rfl) rfl ?_
        refine j_iload_n (pc := 72) 1 (jd k_Mod_begin 38 rfl) rfl ?_
        obtain ⟨s21, e22, H⟩ := olet H
        refine j_put (pc := 73) (fs := flR ad s19) (fp_Mod_207_10 _) 0 (jd k_Mod_begin 39 rfl) rfl rfl rfl (Nat.le_of_ble_eq_true rfl) ((wpR_11 ad G s19 _).trans (congrArg (mkR ad G) e22)) ?_
        refine j_aload_n (pc := 76) 0 (jd k_Mod_begin 40 rfl) rfl ?_
        refine j_iload_n (pc := 77) 2 (jd k_Mod_begin 41 rfl) rfl ?_
        obtain ⟨s23, e24, H⟩ := olet H
        refine j_put (pc := 78) (fs := flR ad s21) (fp_Mod_216_10 _) 0 (jd k_Mod_begin 42 rfl) rfl rfl rfl (Nat.le_of_ble_eq_true rfl) ((wpR_12 ad G s21 _).trans (congrArg (mkR ad G) e24)) ?_
        refine j_aload_n (pc := 81) 0 (jd k_Mod_begin 43 rfl) rfl ?_
        refine j_aload_n (pc := 82) 0 (jd k_Mod_begin 44 rfl) rfl ?_
        refine j_get (pc := 83) (fs := flR ad s23) (v := .int (s23 11 0)) fl_Mod_207_10 0 (jd k_Mod_begin 45 rfl) rfl rfl ?_
        obtain ⟨s25, e26, H⟩ := olet H
        refine j_put (pc := 86) (fs := flR ad s23) (fp_Mod_219_10 _) 0 (jd k_Mod_begin 46 rfl) rfl rfl rfl (Nat.le_of_ble_eq_true rfl) ((wpR_13 ad G s23 _).trans (congrArg (mkR ad G) e26)) ?_
        refine j_aload_n (pc := 89) 0 (jd k_Mod_begin 47 rfl) rfl ?_
        refine j_aload_n (pc := 90) 0 (jd k_Mod_begin 48 rfl) rfl ?_
        refine j_get (pc := 91) (fs := flR ad s25) (v := .int (s25 12 0)) fl_Mod_216_10 0 (jd k_Mod_begin 49 rfl) rfl rfl ?_
        obtain ⟨s27, e28, H⟩ := olet H
        refine j_put (pc := 94) (fs := flR ad s25) (fp_Mod_222_10 _) 0 (jd k_Mod_begin 50 rfl) rfl rfl rfl (Nat.le_of_ble_eq_true rfl) ((wpR_14 ad G s25 _).trans (congrArg (mkR ad G) e28)) ?_
        refine j_aload_n (pc := 97) 0 (jd k_Mod_begin 51 rfl) rfl ?_
        refine j_iconst (pc := 98) (v := 1) (jd k_Mod_begin 52 rfl) (by decide) ?_
        obtain ⟨s29, e30, H⟩ := olet H
        refine j_put (pc := 99) (fs := flR ad s27) (fp_Mod_203_10 _) 0 (jd k_Mod_begin 53 rfl) rfl rfl rfl (Nat.le_of_ble_eq_true rfl) ((wpR_15 ad G s27 _).trans (congrArg (mkR ad G) e30)) ?_
        refine j_aload_n (pc := 102) 0 (jd k_Mod_begin 54 rfl) rfl ?_
        refine j_iconst (pc := 103) (v := 0) (jd k_Mod_begin 55 rfl) (by decide) ?_
        obtain ⟨s31, e32, H⟩ := olet H
        refine j_put (pc := 104) (fs := flR ad s29) (fp_Mod_225_10 _) 0 (jd k_Mod_begin 56 rfl) rfl rfl rfl (Nat.le_of_ble_eq_true rfl) ((wpR_16 ad G s29 _).trans (congrArg (mkR ad G) e32)) ?_
        refine j_aload_n (pc := 107) 0 (jd k_Mod_begin 57 rfl) rfl ?_
        refine j_iconst (pc := 108) (v := 0) (jd k_Mod_begin 58 rfl) (by decide) ?_
        obtain ⟨s33, e34, H⟩ := olet H
        refine j_put (pc := 109) (fs := flR ad s31) (fp_Mod_228_10 _) 0 (jd k_Mod_begin 59 rfl) rfl rfl rfl (Nat.le_of_ble_eq_true rfl) ((wpR_17 ad G s31 _).trans (congrArg (mkR ad G) e34)) ?_
        refine j_aload_n (pc := 112) 0 (jd k_Mod_begin 60 rfl) rfl ?_
        refine j_iconst (pc := 113) (v := 0) (jd k_Mod_begin 61 rfl) (by decide) ?_
        obtain ⟨s35, e36, H⟩ := olet H
        refine j_put (pc := 114) (fs := flR ad s33) (fp_Mod_231_10 _) 0 (jd k_Mod_begin 62 rfl) rfl rfl rfl (Nat.le_of_ble_eq_true rfl) ((wpR_18 ad G s33 _).trans (congrArg (mkR ad G) e36)) ?_
        refine j_aload_n (pc := 117) 0 (jd k_Mod_begin 63 rfl) rfl ?_
        refine j_iconst (pc := 118) (v := 0) (jd k_Mod_begin 64 rfl) (by decide) ?_
        obtain ⟨s37, e38, H⟩ := olet H
        refine j_put (pc := 119) (fs := flR ad s35) (fp_Mod_234_10 _) 0 (jd k_Mod_begin 65 rfl) rfl rfl rfl (Nat.le_of_ble_eq_true rfl) ((wpR_40 ad G s35 _).trans (congrArg (mkR ad G) e38)) ?_
        refine j_aload_n (pc := 122) 0 (jd k_Mod_begin 66 rfl) rfl ?_
        refine j_iconst (pc := 123) (v := 0) (jd k_Mod_begin 67 rfl) (by decide) ?_
        obtain ⟨s39, e40, H⟩ := olet H
        refine j_put (pc := 124) (fs := flR ad s37) (fp_Mod_237_10 _) 0 (jd k_Mod_begin 68 rfl) rfl rfl rfl (Nat.le_of_ble_eq_true rfl) ((wpR_23 ad G s37 _).trans (congrArg (mkR ad G) e40)) ?_
        refine j_aload_n (pc := 127) 0 (jd k_Mod_begin 69 rfl) rfl ?_
        refine j_iconst (pc := 128) (v := 0) (jd k_Mod_begin 70 rfl) (by decide) ?_
        obtain ⟨s41, e42, H⟩ := olet H
        refine j_put (pc := 129) (fs := flR ad s39) (fp_Mod_240_10 _) 0 (jd k_Mod_begin 71 rfl) rfl rfl rfl (Nat.le_of_ble_eq_true rfl) ((wpR_24 ad G s39 _).trans (congrArg (mkR ad G) e42)) ?_
        refine j_aload_n (pc := 132) 0 (jd k_Mod_begin 72 rfl) rfl ?_
        refine j_iconst (pc := 133) (v := 0) (jd k_Mod_begin 73 rfl) (by decide) ?_
        obtain ⟨s43, e44, H⟩ := olet H
        refine j_put (pc := 134) (fs := flR ad s41) (fp_Mod_243_10 _) 0 (jd k_Mod_begin 74 rfl) rfl rfl rfl (Nat.le_of_ble_eq_true rfl) ((wpR_25 ad G s41 _).trans (congrArg (mkR ad G) e44)) ?_
        refine j_aload_n (pc := 137) 0 (jd k_Mod_begin 75 rfl) rfl ?_
        refine j_iconst (pc := 138) (v := 0) (jd k_Mod_begin 76 rfl) (by decide) ?_
        obtain ⟨s45, e46, H⟩ := olet H
        refine j_put (pc := 139) (fs := flR ad s43) (fp_Mod_246_10 _) 0 (jd k_Mod_begin 77 rfl) rfl rfl rfl (Nat.le_of_ble_eq_true rfl) ((wpR_26 ad G s43 _).trans (congrArg (mkR ad G) e46)) ?_
        refine j_aload_n (pc := 142) 0 (jd k_Mod_begin 78 rfl) rfl ?_
        refine j_iconst (pc := 143) (v := 0) (jd k_Mod_begin 79 rfl) (by decide) ?_
        obtain ⟨s47, e48, H⟩ := olet H
        refine j_put (pc := 144) (fs := flR ad s45) (fp_Mod_249_10 _) 0 (jd k_Mod_begin 80 rfl) rfl rfl rfl (Nat.le_of_ble_eq_true rfl) ((wpR_27 ad G s45 _).trans (congrArg (mkR ad G) e48)) ?_
        refine j_iconst (pc := 147) (v := 0) (jd k_Mod_begin 81 rfl) (by decide) ?_
        refine j_istore (pc := 148) (lv' := [(0, .ref (ad 0)), (2, .int p1), (3, .int p2), (4, .int 0)]) (jd k_Mod_begin 82 rfl) rfl (Nat.le_of_ble_eq_true rfl) rfl ?_
        obtain ⟨⟨x60, s61⟩, h62, H⟩ := obnd H
        try dsimp only at H
        refine j_pick (lv' := [(0, .ref (ad 0)), (4, .int 0)]) [0, 3] rfl ?_
        refine lp_Mod_begin_150  jF 0 s47 _ h62 ?_
        refine j_pick (lv' := [(0, .ref (ad 0))]) [0] rfl ?_
        refine j_aload_n (pc := 179) 0 (jd k_Mod_begin 98 rfl) rfl ?_
        obtain ⟨s63, h64, H⟩ := obnd H
        refine jc_V (pc := 180) (st := []) (c_Mod_forget ad G s61 _ h64) L0_Mod_forget w1316 w1318 w35 0 rfl rfl (jd k_Mod_begin 99 rfl) rfl (Nat.le_of_ble_eq_true rfl) (by decide) (Nat.le_refl _) (Nat.le_refl _) rfl rfl ?_
        cases H
        subst hP9
        exact j_vret (pc := 183) (jd k_Mod_begin 100 rfl) rfl ⟨rfl, rfl⟩
      have H := h17
      refine j_if_ne (pc := 57) (tgt := 66) (jd k_Mod_begin 32 rfl) rfl (fun h15 => ?_) (fun h15 => ?_)
      · rw [if_pos h15] at H
        refine j_bipush (pc := 66) (v := 31) (jd k_Mod_begin 35 rfl) (by decide) ?_
        cases H
        exact j_pick [0, 2, 3] rfl K18
      · rw [if_neg (not_not_intro h15)] at H
        refine j_sipush (pc := 60) (v := 1019) (jd k_Mod_begin 33 rfl) (by decide) ?_
        refine j_goto (pc := 63) (tgt := 68) (jd k_Mod_begin 34 rfl) rfl ?_
        cases H
        exact j_pick [0, 2, 3] rfl K18
    · rw [if_neg h12] at H
      cases H
      subst hP9
      exact j_vret (pc := 46) (jd k_Mod_begin 25 rfl) rfl ⟨rfl, rfl⟩
  have H := h8
  refine j_if_lt (pc := 2) (tgt := 31) (jd k_Mod_begin 2 rfl) rfl (fun h1 => ?_) (fun h1 => ?_)
  · rw [if_pos h1] at H
    refine j_iconst (pc := 31) (v := 1) (jd k_Mod_begin 18 rfl) (by decide) ?_
    refine j_goto (pc := 32) (tgt := 36) (jd k_Mod_begin 19 rfl) rfl ?_
    cases H
    exact K9
  · rw [if_neg h1] at H
    refine j_iload_n (pc := 5) 1 (jd k_Mod_begin 3 rfl) rfl ?_
    refine j_iconst (pc := 6) (v := 1) (jd k_Mod_begin 4 rfl) (by decide) ?_
    refine j_icmp_gt (pc := 7) (tgt := 31) (jd k_Mod_begin 5 rfl) rfl (fun h2 => ?_) (fun h2 => ?_)
    · rw [if_pos h2] at H
      refine j_iconst (pc := 31) (v := 1) (jd k_Mod_begin 18 rfl) (by decide) ?_
      refine j_goto (pc := 32) (tgt := 36) (jd k_Mod_begin 19 rfl) rfl ?_
      cases H
      exact K9
    · rw [if_neg h2] at H
      refine j_iload_n (pc := 10) 2 (jd k_Mod_begin 6 rfl) rfl ?_
      refine j_iconst (pc := 11) (v := 1) (jd k_Mod_begin 7 rfl) (by decide) ?_
      refine j_icmp_lt (pc := 12) (tgt := 31) (jd k_Mod_begin 8 rfl) rfl (fun h3 => ?_) (fun h3 => ?_)
      · rw [if_pos h3] at H
        refine j_iconst (pc := 31) (v := 1) (jd k_Mod_begin 18 rfl) (by decide) ?_
        refine j_goto (pc := 32) (tgt := 36) (jd k_Mod_begin 19 rfl) rfl ?_
        cases H
        exact K9
      · rw [if_neg h3] at H
        refine j_iload_n (pc := 15) 2 (jd k_Mod_begin 9 rfl) rfl ?_
        refine j_bipush (pc := 16) (v := 7) (jd k_Mod_begin 10 rfl) (by decide) ?_
        refine j_icmp_gt (pc := 18) (tgt := 31) (jd k_Mod_begin 11 rfl) rfl (fun h4 => ?_) (fun h4 => ?_)
        · rw [if_pos h4] at H
          refine j_iconst (pc := 31) (v := 1) (jd k_Mod_begin 18 rfl) (by decide) ?_
          refine j_goto (pc := 32) (tgt := 36) (jd k_Mod_begin 19 rfl) rfl ?_
          cases H
          exact K9
        · rw [if_neg h4] at H
          refine j_iload_n (pc := 21) 3 (jd k_Mod_begin 12 rfl) rfl ?_
          refine j_iconst (pc := 22) (v := 1) (jd k_Mod_begin 13 rfl) (by decide) ?_
          refine j_icmp_lt (pc := 23) (tgt := 31) (jd k_Mod_begin 14 rfl) rfl (fun h5 => ?_) (fun h5 => ?_)
          · rw [if_pos h5] at H
            refine j_iconst (pc := 31) (v := 1) (jd k_Mod_begin 18 rfl) (by decide) ?_
            refine j_goto (pc := 32) (tgt := 36) (jd k_Mod_begin 19 rfl) rfl ?_
            cases H
            exact K9
          · rw [if_neg h5] at H
            refine j_iload_n (pc := 26) 3 (jd k_Mod_begin 15 rfl) rfl ?_
            refine j_iload_n (pc := 27) 2 (jd k_Mod_begin 16 rfl) rfl ?_
            refine j_icmp_le (pc := 28) (tgt := 35) (jd k_Mod_begin 17 rfl) rfl (fun h6 => ?_) (fun h6 => ?_)
            · rw [if_pos h6] at H
              refine j_iconst (pc := 35) (v := 0) (jd k_Mod_begin 20 rfl) (by decide) ?_
              cases H
              exact K9
            · rw [if_neg h6] at H
              refine j_iconst (pc := 31) (v := 1) (jd k_Mod_begin 18 rfl) (by decide) ?_
              refine j_goto (pc := 32) (tgt := 36) (jd k_Mod_begin 19 rfl) rfl ?_
              cases H
              exact K9

set_option maxRecDepth 20000 in
theorem c_Mod_isParty (ad : Nat → Nat) (G : jG) (p0 : Int32) (s : jS) (r : Int32) (H : f_Mod_isParty p0 s = some r) : jCon G m_Mod_isParty y_Mod_isParty 0 0 0 [.ref (ad 0), .int p0] (mkR ad G s) (jEq (some (.int r)) (mkR ad G s)) := by
  refine jCon.of (by decide +kernel) rfl rfl rfl (Nat.le_of_ble_eq_true rfl) rfl ?_
  have H : (
  Option.bind (α := Int32) (
    if (s 15 0) = 0 then
      some 0
    else
      if p0 < 1 then
        some 0
      else
        if (s 11 0) < p0 then
          some 0
        else
          some 1) fun x4 =>
  if jbo x4 then
  some x4
  else none) = some r := H
  generalize hP9 : jEq (some (.int r)) (mkR ad G s) = P
  refine j_aload_n (pc := 0) 0 (jd k_Mod_isParty 0 rfl) rfl ?_
  refine j_get (pc := 1) (fs := flR ad s) (v := .int (s 15 0)) fl_Mod_203_10 0 (jd k_Mod_isParty 1 rfl) rfl rfl ?_
  obtain ⟨x4, h5, H⟩ := obnd H
  have K6 : J G m_Mod_isParty 0 0 0 P 25 [] [.int x4] (mkR ad G s) 0 0 := by
    obtain ⟨h7, H⟩ := ochk H
    cases H
    subst hP9
    exact j_iret (pc := 25) (jd k_Mod_isParty 13 rfl) rfl (jbo.nar h7) ⟨rfl, rfl⟩
  have H := h5
  refine j_if_eq (pc := 4) (tgt := 24) (jd k_Mod_isParty 2 rfl) rfl (fun h1 => ?_) (fun h1 => ?_)
  · rw [if_pos h1] at H
    refine j_iconst (pc := 24) (v := 0) (jd k_Mod_isParty 12 rfl) (by decide) ?_
    cases H
    exact j_pick [] rfl K6
  · rw [if_neg h1] at H
    refine j_iload_n (pc := 7) 1 (jd k_Mod_isParty 3 rfl) rfl ?_
    refine j_iconst (pc := 8) (v := 1) (jd k_Mod_isParty 4 rfl) (by decide) ?_
    refine j_icmp_lt (pc := 9) (tgt := 24) (jd k_Mod_isParty 5 rfl) rfl (fun h2 => ?_) (fun h2 => ?_)
    · rw [if_pos h2] at H
      refine j_iconst (pc := 24) (v := 0) (jd k_Mod_isParty 12 rfl) (by decide) ?_
      cases H
      exact j_pick [] rfl K6
    · rw [if_neg h2] at H
      refine j_iload_n (pc := 12) 1 (jd k_Mod_isParty 6 rfl) rfl ?_
      refine j_aload_n (pc := 13) 0 (jd k_Mod_isParty 7 rfl) rfl ?_
      refine j_get (pc := 14) (fs := flR ad s) (v := .int (s 11 0)) fl_Mod_207_10 0 (jd k_Mod_isParty 8 rfl) rfl rfl ?_
      refine j_icmp_gt (pc := 17) (tgt := 24) (jd k_Mod_isParty 9 rfl) rfl (fun h3 => ?_) (fun h3 => ?_)
      · rw [if_pos h3] at H
        refine j_iconst (pc := 24) (v := 0) (jd k_Mod_isParty 12 rfl) (by decide) ?_
        cases H
        exact j_pick [] rfl K6
      · rw [if_neg h3] at H
        refine j_iconst (pc := 20) (v := 1) (jd k_Mod_isParty 10 rfl) (by decide) ?_
        refine j_goto (pc := 21) (tgt := 25) (jd k_Mod_isParty 11 rfl) rfl ?_
        cases H
        exact j_pick [] rfl K6

set_option maxRecDepth 20000 in
theorem c_Mod_give (ad : Nat → Nat) (G : jG) (p0 : Int32) (p1 : Int32) (p2 : Int32) (p3 : Int32) (s : jS) (r : jS) (H : f_Mod_give p0 p1 p2 p3 s = some r) : jCon G m_Mod_give y_Mod_give 1 0 0 [.ref (ad 0), .int p0, .int p1, .int p2, .int p3] (mkR ad G s) (jEq none (mkR ad G r)) := by
  refine jCon.of (by decide +kernel) rfl rfl rfl (Nat.le_of_ble_eq_true rfl) rfl ?_
  have H : (
  Option.bind (α := Int32) (
    if (s 15 0) = 0 then
      some 1
    else
      if (s 18 0) ≤ 0 then
        Option.bind (f_Mod_isParty p0 s) fun x3 =>
        if x3 = 0 then
          some 2
        else
          if p1 < 0 then
            some 2
          else
            if (s 12 0) ≤ p1 then
              some 2
            else
              if p2 < 0 then
                some 2
              else
                if p2 ≤ 1 then
                  some 0
                else
                  some 2
      else
        if ¬ (s 16 0) = 0 then
          Option.bind (f_Mod_isParty p0 s) fun x11 =>
          if x11 = 0 then
            some 2
          else
            if p1 < 0 then
              some 2
            else
              if (s 12 0) ≤ p1 then
                some 2
              else
                if p2 < 0 then
                  some 2
                else
                  if p2 ≤ 1 then
                    some 0
                  else
                    some 2
        else
          if ¬ (s 17 0) = 0 then
            Option.bind (f_Mod_isParty p0 s) fun x19 =>
            if x19 = 0 then
              some 2
            else
              if p1 < 0 then
                some 2
              else
                if (s 12 0) ≤ p1 then
                  some 2
                else
                  if p2 < 0 then
                    some 2
                  else
                    if p2 ≤ 1 then
                      some 0
                    else
                      some 2
          else
            some 1) fun x26 =>
  jlet (va_up s 0 (fun _ => x26)) fun s29 =>
  if (s29 0 0) ≤ 0 then
    if ¬ (s29 10 0) = 0 then
    jlet (jrem p3 (s29 10 0)) fun x33 =>
    Option.bind (α := Int32) (
      if 0 ≤ x33 then
        some x33
      else
        some (x33 + (s29 10 0))) fun x35 =>
    Option.bind (α := jS) (
      if ¬ p2 = 0 then
        if jin (((7 * p0) - 7) + p1) 49 then
        jlet (va_up s29 20 (upd (s29 20) (((7 * p0) - 7) + p1).toNatClampNeg x35)) fun s39 =>
        some s39
        else none
      else
        if jin (((7 * p0) - 7) + p1) 49 then
        jlet (va_up s29 19 (upd (s29 19) (((7 * p0) - 7) + p1).toNatClampNeg x35)) fun s42 =>
        some s42
        else none) fun s45 =>
    some s45
    else none
  else
    some s29) = some r := H
  generalize hP9 : jEq none (mkR ad G r) = P
  refine j_aload_n (pc := 0) 0 (jd k_Mod_give 0 rfl) rfl ?_
  refine j_aload_n (pc := 1) 0 (jd k_Mod_give 1 rfl) rfl ?_
  refine j_get (pc := 2) (fs := flR ad s) (v := .int (s 15 0)) fl_Mod_203_10 0 (jd k_Mod_give 2 rfl) rfl rfl ?_
  obtain ⟨x26, h27, H⟩ := obnd H
  have K28 : J G m_Mod_give 1 0 0 P 67 [(0, .ref (ad 0)), (1, .int p0), (2, .int p1), (3, .int p2), (4, .int p3)] [.int x26, .ref (ad 0)] (mkR ad G s) 0 0 := by
    obtain ⟨s29, e30, H⟩ := olet H
    refine j_put (pc := 67) (fs := flR ad s) (fp_Mod_170_10 _) 0 (jd k_Mod_give 33 rfl) rfl rfl rfl (Nat.le_of_ble_eq_true rfl) ((wpR_0 ad G s _).trans (congrArg (mkR ad G) e30)) ?_
    refine j_aload_n (pc := 70) 0 (jd k_Mod_give 34 rfl) rfl ?_
    refine j_get (pc := 71) (fs := flR ad s29) (v := .int (s29 0 0)) fl_Mod_170_10 0 (jd k_Mod_give 35 rfl) rfl rfl ?_
    refine j_if_le (pc := 74) (tgt := 78) (jd k_Mod_give 36 rfl) rfl (fun h31 => ?_) (fun h31 => ?_)
    · rw [if_pos h31] at H
      refine j_iload (pc := 78) 4 (jd k_Mod_give 38 rfl) rfl ?_
      refine j_aload_n (pc := 80) 0 (jd k_Mod_give 39 rfl) rfl ?_
      refine j_get (pc := 81) (fs := flR ad s29) (v := .int (s29 10 0)) fl_Mod_213_10 0 (jd k_Mod_give 40 rfl) rfl rfl ?_
      obtain ⟨h32, H⟩ := ochk H
      refine j_irem (pc := 84) (jd k_Mod_give 41 rfl) h32 ?_
      obtain ⟨x33, e48, H⟩ := olet H
      refine j_topi e48 ?_
      refine j_istore (pc := 85) (lv' := [(0, .ref (ad 0)), (1, .int p0), (2, .int p1), (3, .int p2), (4, .int p3), (5, .int x33)]) (jd k_Mod_give 42 rfl) rfl (Nat.le_of_ble_eq_true rfl) rfl ?_
      refine j_iload (pc := 87) 5 (jd k_Mod_give 43 rfl) rfl ?_
      obtain ⟨x35, h36, H⟩ := obnd H
      have K37 : J G m_Mod_give 1 0 0 P 104 [(0, .ref (ad 0)), (1, .int p0), (2, .int p1), (3, .int p2)] [.int x35] (mkR ad G s29) 0 0 := by
        refine j_istore (pc := 104) (lv' := [(0, .ref (ad 0)), (1, .int p0), (2, .int p1), (3, .int p2), (5, .int x35)]) (jd k_Mod_give 51 rfl) rfl (Nat.le_of_ble_eq_true rfl) rfl ?_
        refine j_iload_n (pc := 106) 3 (jd k_Mod_give 52 rfl) rfl ?_
        obtain ⟨s45, h46, H⟩ := obnd H
        have K47 : J G m_Mod_give 1 0 0 P 145 [] [] (mkR ad G s45) 0 0 := by
          cases H
          subst hP9
          exact j_vret (pc := 145) (jd k_Mod_give 77 rfl) rfl ⟨rfl, rfl⟩
        have H := h46
        refine j_if_ne (pc := 107) (tgt := 129) (jd k_Mod_give 53 rfl) rfl (fun h38 => ?_) (fun h38 => ?_)
        · rw [if_pos h38] at H
          refine j_aload_n (pc := 129) 0 (jd k_Mod_give 66 rfl) rfl ?_
          refine j_get (pc := 130) (fs := flR ad s29) (v := .ref (ad 8)) fl_Mod_31_10 0 (jd k_Mod_give 67 rfl) rfl rfl ?_
          refine j_bipush (pc := 133) (v := 7) (jd k_Mod_give 68 rfl) (by decide) ?_
          refine j_iload_n (pc := 135) 1 (jd k_Mod_give 69 rfl) rfl ?_
          refine j_imul (pc := 136) (jd k_Mod_give 70 rfl) ?_
          refine j_bipush (pc := 137) (v := 7) (jd k_Mod_give 71 rfl) (by decide) ?_
          refine j_isub (pc := 139) (jd k_Mod_give 72 rfl) ?_
          refine j_iload_n (pc := 140) 2 (jd k_Mod_give 73 rfl) rfl ?_
          refine j_iadd (pc := 141) (jd k_Mod_give 74 rfl) ?_
          refine j_iload (pc := 142) 4 (jd k_Mod_give 75 rfl) rfl ?_
          obtain ⟨h41, H⟩ := ochk H
          obtain ⟨s39, e40, H⟩ := olet H
          refine j_iast (pc := 144) (f := s29 20) 8 (jd k_Mod_give 76 rfl) rfl (jin.vp h41) ((waR_20 ad G s29 _).trans (congrArg (mkR ad G) e40)) ?_
          cases H
          exact j_pick [] rfl K47
        · rw [if_neg (not_not_intro h38)] at H
          refine j_aload_n (pc := 110) 0 (jd k_Mod_give 54 rfl) rfl ?_
          refine j_get (pc := 111) (fs := flR ad s29) (v := .ref (ad 7)) fl_Mod_28_10 0 (jd k_Mod_give 55 rfl) rfl rfl ?_
          refine j_bipush (pc := 114) (v := 7) (jd k_Mod_give 56 rfl) (by decide) ?_
          refine j_iload_n (pc := 116) 1 (jd k_Mod_give 57 rfl) rfl ?_
          refine j_imul (pc := 117) (jd k_Mod_give 58 rfl) ?_
          refine j_bipush (pc := 118) (v := 7) (jd k_Mod_give 59 rfl) (by decide) ?_
          refine j_isub (pc := 120) (jd k_Mod_give 60 rfl) ?_
          refine j_iload_n (pc := 121) 2 (jd k_Mod_give 61 rfl) rfl ?_
          refine j_iadd (pc := 122) (jd k_Mod_give 62 rfl) ?_
          refine j_iload (pc := 123) 4 (jd k_Mod_give 63 rfl) rfl ?_
          obtain ⟨h44, H⟩ := ochk H
          obtain ⟨s42, e43, H⟩ := olet H
          refine j_iast (pc := 125) (f := s29 19) 7 (jd k_Mod_give 64 rfl) rfl (jin.vp h44) ((waR_19 ad G s29 _).trans (congrArg (mkR ad G) e43)) ?_
          refine j_goto (pc := 126) (tgt := 145) (jd k_Mod_give 65 rfl) rfl ?_
          cases H
          exact j_pick [] rfl K47
      have H := h36
      refine j_if_ge (pc := 89) (tgt := 102) (jd k_Mod_give 44 rfl) rfl (fun h34 => ?_) (fun h34 => ?_)
      · rw [if_pos h34] at H
        refine j_iload (pc := 102) 5 (jd k_Mod_give 50 rfl) rfl ?_
        cases H
        exact j_pick [0, 1, 2, 3] rfl K37
      · rw [if_neg h34] at H
        refine j_iload (pc := 92) 5 (jd k_Mod_give 45 rfl) rfl ?_
        refine j_aload_n (pc := 94) 0 (jd k_Mod_give 46 rfl) rfl ?_
        refine j_get (pc := 95) (fs := flR ad s29) (v := .int (s29 10 0)) fl_Mod_213_10 0 (jd k_Mod_give 47 rfl) rfl rfl ?_
        refine j_iadd (pc := 98) (jd k_Mod_give 48 rfl) ?_
        refine j_goto (pc := 99) (tgt := 104) (jd k_Mod_give 49 rfl) rfl ?_
        cases H
        exact j_pick [0, 1, 2, 3] rfl K37
    · rw [if_neg h31] at H
      cases H
      subst hP9
      exact j_vret (pc := 77) (jd k_Mod_give 37 rfl) rfl ⟨rfl, rfl⟩
  have H := h27
  refine j_if_eq (pc := 5) (tgt := 29) (jd k_Mod_give 3 rfl) rfl (fun h1 => ?_) (fun h1 => ?_)
  · rw [if_pos h1] at H
    refine j_iconst (pc := 29) (v := 1) (jd k_Mod_give 13 rfl) (by decide) ?_
    refine j_goto (pc := 30) (tgt := 67) (jd k_Mod_give 14 rfl) rfl ?_
    cases H
    exact K28
  · rw [if_neg h1] at H
    refine j_aload_n (pc := 8) 0 (jd k_Mod_give 4 rfl) rfl ?_
    refine j_get (pc := 9) (fs := flR ad s) (v := .int (s 18 0)) fl_Mod_231_10 0 (jd k_Mod_give 5 rfl) rfl rfl ?_
    refine j_if_le (pc := 12) (tgt := 33) (jd k_Mod_give 6 rfl) rfl (fun h2 => ?_) (fun h2 => ?_)
    · rw [if_pos h2] at H
      refine j_aload_n (pc := 33) 0 (jd k_Mod_give 15 rfl) rfl ?_
      refine j_iload_n (pc := 34) 1 (jd k_Mod_give 16 rfl) rfl ?_
      obtain ⟨x3, h4, H⟩ := obnd H
      refine jc_V (pc := 35) (st := [.ref (ad 0)]) (c_Mod_isParty ad G p0 s _ h4) L0_Mod_isParty w1324 w1326 w36 0 rfl rfl (jd k_Mod_give 17 rfl) rfl (Nat.le_of_ble_eq_true rfl) (by decide) (Nat.le_refl _) (Nat.le_refl _) rfl rfl ?_
      refine j_if_eq (pc := 38) (tgt := 62) (jd k_Mod_give 18 rfl) rfl (fun h5 => ?_) (fun h5 => ?_)
      · rw [if_pos h5] at H
        refine j_iconst (pc := 62) (v := 2) (jd k_Mod_give 30 rfl) (by decide) ?_
        refine j_goto (pc := 63) (tgt := 67) (jd k_Mod_give 31 rfl) rfl ?_
        cases H
        exact K28
      · rw [if_neg h5] at H
        refine j_iload_n (pc := 41) 2 (jd k_Mod_give 19 rfl) rfl ?_
        refine j_if_lt (pc := 42) (tgt := 62) (jd k_Mod_give 20 rfl) rfl (fun h6 => ?_) (fun h6 => ?_)
        · rw [if_pos h6] at H
          refine j_iconst (pc := 62) (v := 2) (jd k_Mod_give 30 rfl) (by decide) ?_
          refine j_goto (pc := 63) (tgt := 67) (jd k_Mod_give 31 rfl) rfl ?_
          cases H
          exact K28
        · rw [if_neg h6] at H
          refine j_iload_n (pc := 45) 2 (jd k_Mod_give 21 rfl) rfl ?_
          refine j_aload_n (pc := 46) 0 (jd k_Mod_give 22 rfl) rfl ?_
          refine j_get (pc := 47) (fs := flR ad s) (v := .int (s 12 0)) fl_Mod_216_10 0 (jd k_Mod_give 23 rfl) rfl rfl ?_
          refine j_icmp_ge (pc := 50) (tgt := 62) (jd k_Mod_give 24 rfl) rfl (fun h7 => ?_) (fun h7 => ?_)
          · rw [if_pos h7] at H
            refine j_iconst (pc := 62) (v := 2) (jd k_Mod_give 30 rfl) (by decide) ?_
            refine j_goto (pc := 63) (tgt := 67) (jd k_Mod_give 31 rfl) rfl ?_
            cases H
            exact K28
          · rw [if_neg h7] at H
            refine j_iload_n (pc := 53) 3 (jd k_Mod_give 25 rfl) rfl ?_
            refine j_if_lt (pc := 54) (tgt := 62) (jd k_Mod_give 26 rfl) rfl (fun h8 => ?_) (fun h8 => ?_)
            · rw [if_pos h8] at H
              refine j_iconst (pc := 62) (v := 2) (jd k_Mod_give 30 rfl) (by decide) ?_
              refine j_goto (pc := 63) (tgt := 67) (jd k_Mod_give 31 rfl) rfl ?_
              cases H
              exact K28
            · rw [if_neg h8] at H
              refine j_iload_n (pc := 57) 3 (jd k_Mod_give 27 rfl) rfl ?_
              refine j_iconst (pc := 58) (v := 1) (jd k_Mod_give 28 rfl) (by decide) ?_
              refine j_icmp_le (pc := 59) (tgt := 66) (jd k_Mod_give 29 rfl) rfl (fun h9 => ?_) (fun h9 => ?_)
              · rw [if_pos h9] at H
                refine j_iconst (pc := 66) (v := 0) (jd k_Mod_give 32 rfl) (by decide) ?_
                cases H
                exact K28
              · rw [if_neg h9] at H
                refine j_iconst (pc := 62) (v := 2) (jd k_Mod_give 30 rfl) (by decide) ?_
                refine j_goto (pc := 63) (tgt := 67) (jd k_Mod_give 31 rfl) rfl ?_
                cases H
                exact K28
    · rw [if_neg h2] at H
      refine j_aload_n (pc := 15) 0 (jd k_Mod_give 7 rfl) rfl ?_
      refine j_get (pc := 16) (fs := flR ad s) (v := .int (s 16 0)) fl_Mod_225_10 0 (jd k_Mod_give 8 rfl) rfl rfl ?_
      refine j_if_ne (pc := 19) (tgt := 33) (jd k_Mod_give 9 rfl) rfl (fun h10 => ?_) (fun h10 => ?_)
      · rw [if_pos h10] at H
        refine j_aload_n (pc := 33) 0 (jd k_Mod_give 15 rfl) rfl ?_
        refine j_iload_n (pc := 34) 1 (jd k_Mod_give 16 rfl) rfl ?_
        obtain ⟨x11, h12, H⟩ := obnd H
        refine jc_V (pc := 35) (st := [.ref (ad 0)]) (c_Mod_isParty ad G p0 s _ h12) L0_Mod_isParty w1324 w1326 w36 0 rfl rfl (jd k_Mod_give 17 rfl) rfl (Nat.le_of_ble_eq_true rfl) (by decide) (Nat.le_refl _) (Nat.le_refl _) rfl rfl ?_
        refine j_if_eq (pc := 38) (tgt := 62) (jd k_Mod_give 18 rfl) rfl (fun h13 => ?_) (fun h13 => ?_)
        · rw [if_pos h13] at H
          refine j_iconst (pc := 62) (v := 2) (jd k_Mod_give 30 rfl) (by decide) ?_
          refine j_goto (pc := 63) (tgt := 67) (jd k_Mod_give 31 rfl) rfl ?_
          cases H
          exact K28
        · rw [if_neg h13] at H
          refine j_iload_n (pc := 41) 2 (jd k_Mod_give 19 rfl) rfl ?_
          refine j_if_lt (pc := 42) (tgt := 62) (jd k_Mod_give 20 rfl) rfl (fun h14 => ?_) (fun h14 => ?_)
          · rw [if_pos h14] at H
            refine j_iconst (pc := 62) (v := 2) (jd k_Mod_give 30 rfl) (by decide) ?_
            refine j_goto (pc := 63) (tgt := 67) (jd k_Mod_give 31 rfl) rfl ?_
            cases H
            exact K28
          · rw [if_neg h14] at H
            refine j_iload_n (pc := 45) 2 (jd k_Mod_give 21 rfl) rfl ?_
            refine j_aload_n (pc := 46) 0 (jd k_Mod_give 22 rfl) rfl ?_
            refine j_get (pc := 47) (fs := flR ad s) (v := .int (s 12 0)) fl_Mod_216_10 0 (jd k_Mod_give 23 rfl) rfl rfl ?_
            refine j_icmp_ge (pc := 50) (tgt := 62) (jd k_Mod_give 24 rfl) rfl (fun h15 => ?_) (fun h15 => ?_)
            · rw [if_pos h15] at H
              refine j_iconst (pc := 62) (v := 2) (jd k_Mod_give 30 rfl) (by decide) ?_
              refine j_goto (pc := 63) (tgt := 67) (jd k_Mod_give 31 rfl) rfl ?_
              cases H
              exact K28
            · rw [if_neg h15] at H
              refine j_iload_n (pc := 53) 3 (jd k_Mod_give 25 rfl) rfl ?_
              refine j_if_lt (pc := 54) (tgt := 62) (jd k_Mod_give 26 rfl) rfl (fun h16 => ?_) (fun h16 => ?_)
              · rw [if_pos h16] at H
                refine j_iconst (pc := 62) (v := 2) (jd k_Mod_give 30 rfl) (by decide) ?_
                refine j_goto (pc := 63) (tgt := 67) (jd k_Mod_give 31 rfl) rfl ?_
                cases H
                exact K28
              · rw [if_neg h16] at H
                refine j_iload_n (pc := 57) 3 (jd k_Mod_give 27 rfl) rfl ?_
                refine j_iconst (pc := 58) (v := 1) (jd k_Mod_give 28 rfl) (by decide) ?_
                refine j_icmp_le (pc := 59) (tgt := 66) (jd k_Mod_give 29 rfl) rfl (fun h17 => ?_) (fun h17 => ?_)
                · rw [if_pos h17] at H
                  refine j_iconst (pc := 66) (v := 0) (jd k_Mod_give 32 rfl) (by decide) ?_
                  cases H
                  exact K28
                · rw [if_neg h17] at H
                  refine j_iconst (pc := 62) (v := 2) (jd k_Mod_give 30 rfl) (by decide) ?_
                  refine j_goto (pc := 63) (tgt := 67) (jd k_Mod_give 31 rfl) rfl ?_
                  cases H
                  exact K28
      · rw [if_neg (not_not_intro h10)] at H
        refine j_aload_n (pc := 22) 0 (jd k_Mod_give 10 rfl) rfl ?_
        refine j_get (pc := 23) (fs := flR ad s) (v := .int (s 17 0)) fl_Mod_228_10 0 (jd k_Mod_give 11 rfl) rfl rfl ?_
        refine j_if_ne (pc := 26) (tgt := 33) (jd k_Mod_give 12 rfl) rfl (fun h18 => ?_) (fun h18 => ?_)
        · rw [if_pos h18] at H
          refine j_aload_n (pc := 33) 0 (jd k_Mod_give 15 rfl) rfl ?_
          refine j_iload_n (pc := 34) 1 (jd k_Mod_give 16 rfl) rfl ?_
          obtain ⟨x19, h20, H⟩ := obnd H
          refine jc_V (pc := 35) (st := [.ref (ad 0)]) (c_Mod_isParty ad G p0 s _ h20) L0_Mod_isParty w1324 w1326 w36 0 rfl rfl (jd k_Mod_give 17 rfl) rfl (Nat.le_of_ble_eq_true rfl) (by decide) (Nat.le_refl _) (Nat.le_refl _) rfl rfl ?_
          refine j_if_eq (pc := 38) (tgt := 62) (jd k_Mod_give 18 rfl) rfl (fun h21 => ?_) (fun h21 => ?_)
          · rw [if_pos h21] at H
            refine j_iconst (pc := 62) (v := 2) (jd k_Mod_give 30 rfl) (by decide) ?_
            refine j_goto (pc := 63) (tgt := 67) (jd k_Mod_give 31 rfl) rfl ?_
            cases H
            exact K28
          · rw [if_neg h21] at H
            refine j_iload_n (pc := 41) 2 (jd k_Mod_give 19 rfl) rfl ?_
            refine j_if_lt (pc := 42) (tgt := 62) (jd k_Mod_give 20 rfl) rfl (fun h22 => ?_) (fun h22 => ?_)
            · rw [if_pos h22] at H
              refine j_iconst (pc := 62) (v := 2) (jd k_Mod_give 30 rfl) (by decide) ?_
              refine j_goto (pc := 63) (tgt := 67) (jd k_Mod_give 31 rfl) rfl ?_
              cases H
              exact K28
            · rw [if_neg h22] at H
              refine j_iload_n (pc := 45) 2 (jd k_Mod_give 21 rfl) rfl ?_
              refine j_aload_n (pc := 46) 0 (jd k_Mod_give 22 rfl) rfl ?_
              refine j_get (pc := 47) (fs := flR ad s) (v := .int (s 12 0)) fl_Mod_216_10 0 (jd k_Mod_give 23 rfl) rfl rfl ?_
              refine j_icmp_ge (pc := 50) (tgt := 62) (jd k_Mod_give 24 rfl) rfl (fun h23 => ?_) (fun h23 => ?_)
              · rw [if_pos h23] at H
                refine j_iconst (pc := 62) (v := 2) (jd k_Mod_give 30 rfl) (by decide) ?_
                refine j_goto (pc := 63) (tgt := 67) (jd k_Mod_give 31 rfl) rfl ?_
                cases H
                exact K28
              · rw [if_neg h23] at H
                refine j_iload_n (pc := 53) 3 (jd k_Mod_give 25 rfl) rfl ?_
                refine j_if_lt (pc := 54) (tgt := 62) (jd k_Mod_give 26 rfl) rfl (fun h24 => ?_) (fun h24 => ?_)
                · rw [if_pos h24] at H
                  refine j_iconst (pc := 62) (v := 2) (jd k_Mod_give 30 rfl) (by decide) ?_
                  refine j_goto (pc := 63) (tgt := 67) (jd k_Mod_give 31 rfl) rfl ?_
                  cases H
                  exact K28
                · rw [if_neg h24] at H
                  refine j_iload_n (pc := 57) 3 (jd k_Mod_give 27 rfl) rfl ?_
                  refine j_iconst (pc := 58) (v := 1) (jd k_Mod_give 28 rfl) (by decide) ?_
                  refine j_icmp_le (pc := 59) (tgt := 66) (jd k_Mod_give 29 rfl) rfl (fun h25 => ?_) (fun h25 => ?_)
                  · rw [if_pos h25] at H
                    refine j_iconst (pc := 66) (v := 0) (jd k_Mod_give 32 rfl) (by decide) ?_
                    cases H
                    exact K28
                  · rw [if_neg h25] at H
                    refine j_iconst (pc := 62) (v := 2) (jd k_Mod_give 30 rfl) (by decide) ?_
                    refine j_goto (pc := 63) (tgt := 67) (jd k_Mod_give 31 rfl) rfl ?_
                    cases H
                    exact K28
        · rw [if_neg (not_not_intro h18)] at H
          refine j_iconst (pc := 29) (v := 1) (jd k_Mod_give 13 rfl) (by decide) ?_
          refine j_goto (pc := 30) (tgt := 67) (jd k_Mod_give 14 rfl) rfl ?_
          cases H
          exact K28

set_option maxRecDepth 20000 in
theorem c_Mod_fault (ad : Nat → Nat) (G : jG) (p0 : Int32) (p1 : Int32) (p2 : Int32) (s : jS) (r : jS) (H : f_Mod_fault p0 p1 p2 s = some r) : jCon G m_Mod_fault y_Mod_fault 1 0 0 [.ref (ad 0), .int p0, .int p1, .int p2] (mkR ad G s) (jEq none (mkR ad G r)) := by
  refine jCon.of (by decide +kernel) rfl rfl rfl (Nat.le_of_ble_eq_true rfl) rfl ?_
  have H : (
  Option.bind (α := Int32) (
    if p1 = 1 then
      some 1
    else
      if ¬ p1 = 2 then
        some 0
      else
        some 1) fun x3 =>
  Option.bind (α := Int32) (
    if (s 15 0) = 0 then
      some 1
    else
      if (s 18 0) ≤ 0 then
        if p1 < 0 then
          some 2
        else
          if 6 < p1 then
            some 2
          else
            Option.bind (f_Mod_isParty p0 s) fun x10 =>
            if x10 = 0 then
              some 2
            else
              if x3 = 0 then
                some 0
              else
                Option.bind (f_Mod_isParty p2 s) fun x14 =>
                if x14 = 0 then
                  some 2
                else
                  if ¬ p2 = p0 then
                    some 0
                  else
                    some 2
      else
        some 1) fun x18 =>
  jlet (va_up s 0 (fun _ => x18)) fun s21 =>
  Option.bind (α := jS) (
    if ¬ (s21 0 0) = 0 then
      some s21
    else
      Option.bind (α := Int32) (
        if x3 = 0 then
          some 1
        else
          some p2) fun x25 =>
      if jin (((7 * p1) + p0) - 1) 49 then
      jlet (va_up s21 21 (upd (s21 21) (((7 * p1) + p0) - 1).toNatClampNeg x25)) fun s28 =>
      some s28
      else none) fun s31 =>
  some s31) = some r := H
  generalize hP9 : jEq none (mkR ad G r) = P
  refine j_iload_n (pc := 0) 2 (jd k_Mod_fault 0 rfl) rfl ?_
  refine j_iconst (pc := 1) (v := 1) (jd k_Mod_fault 1 rfl) (by decide) ?_
  obtain ⟨x3, h4, H⟩ := obnd H
  have K5 : J G m_Mod_fault 1 0 0 P 15 [(0, .ref (ad 0)), (1, .int p0), (2, .int p1), (3, .int p2)] [.int x3] (mkR ad G s) 0 0 := by
    refine j_istore (pc := 15) (lv' := [(0, .ref (ad 0)), (1, .int p0), (2, .int p1), (3, .int p2), (4, .int x3)]) (jd k_Mod_fault 9 rfl) rfl (Nat.le_of_ble_eq_true rfl) rfl ?_
    refine j_aload_n (pc := 17) 0 (jd k_Mod_fault 10 rfl) rfl ?_
    refine j_aload_n (pc := 18) 0 (jd k_Mod_fault 11 rfl) rfl ?_
    refine j_get (pc := 19) (fs := flR ad s) (v := .int (s 15 0)) fl_Mod_203_10 0 (jd k_Mod_fault 12 rfl) rfl rfl ?_
    obtain ⟨x18, h19, H⟩ := obnd H
    have K20 : J G m_Mod_fault 1 0 0 P 77 [(0, .ref (ad 0)), (1, .int p0), (2, .int p1), (3, .int p2), (4, .int x3)] [.int x18, .ref (ad 0)] (mkR ad G s) 0 0 := by
      obtain ⟨s21, e22, H⟩ := olet H
      refine j_put (pc := 77) (fs := flR ad s) (fp_Mod_170_10 _) 0 (jd k_Mod_fault 40 rfl) rfl rfl rfl (Nat.le_of_ble_eq_true rfl) ((wpR_0 ad G s _).trans (congrArg (mkR ad G) e22)) ?_
      refine j_aload_n (pc := 80) 0 (jd k_Mod_fault 41 rfl) rfl ?_
      refine j_get (pc := 81) (fs := flR ad s21) (v := .int (s21 0 0)) fl_Mod_170_10 0 (jd k_Mod_fault 42 rfl) rfl rfl ?_
      obtain ⟨s31, h32, H⟩ := obnd H
      have K33 : J G m_Mod_fault 1 0 0 P 110 [] [] (mkR ad G s31) 0 0 := by
        cases H
        subst hP9
        exact j_vret (pc := 110) (jd k_Mod_fault 59 rfl) rfl ⟨rfl, rfl⟩
      have H := h32
      refine j_if_ne (pc := 84) (tgt := 110) (jd k_Mod_fault 43 rfl) rfl (fun h23 => ?_) (fun h23 => ?_)
      · rw [if_pos h23] at H
        cases H
        exact j_pick [] rfl K33
      · rw [if_neg (not_not_intro h23)] at H
        refine j_aload_n (pc := 87) 0 (jd k_Mod_fault 44 rfl) rfl ?_
        refine j_get (pc := 88) (fs := flR ad s21) (v := .ref (ad 9)) fl_Mod_34_10 0 (jd k_Mod_fault 45 rfl) rfl rfl ?_
        refine j_bipush (pc := 91) (v := 7) (jd k_Mod_fault 46 rfl) (by decide) ?_
        refine j_iload_n (pc := 93) 2 (jd k_Mod_fault 47 rfl) rfl ?_
        refine j_imul (pc := 94) (jd k_Mod_fault 48 rfl) ?_
        refine j_iload_n (pc := 95) 1 (jd k_Mod_fault 49 rfl) rfl ?_
        refine j_iadd (pc := 96) (jd k_Mod_fault 50 rfl) ?_
        refine j_iconst (pc := 97) (v := 1) (jd k_Mod_fault 51 rfl) (by decide) ?_
        refine j_isub (pc := 98) (jd k_Mod_fault 52 rfl) ?_
        refine j_iload (pc := 99) 4 (jd k_Mod_fault 53 rfl) rfl ?_
        obtain ⟨x25, h26, H⟩ := obnd H
        have K27 : J G m_Mod_fault 1 0 0 P 109 [] [.int x25, .int (((7 * p1) + p0) - 1), .ref (ad 9)] (mkR ad G s21) 0 0 := by
          obtain ⟨h30, H⟩ := ochk H
          obtain ⟨s28, e29, H⟩ := olet H
          refine j_iast (pc := 109) (f := s21 21) 9 (jd k_Mod_fault 58 rfl) rfl (jin.vp h30) ((waR_21 ad G s21 _).trans (congrArg (mkR ad G) e29)) ?_
          cases H
          exact K33
        have H := h26
        refine j_if_eq (pc := 101) (tgt := 108) (jd k_Mod_fault 54 rfl) rfl (fun h24 => ?_) (fun h24 => ?_)
        · rw [if_pos h24] at H
          refine j_iconst (pc := 108) (v := 1) (jd k_Mod_fault 57 rfl) (by decide) ?_
          cases H
          exact j_pick [] rfl K27
        · rw [if_neg h24] at H
          refine j_iload_n (pc := 104) 3 (jd k_Mod_fault 55 rfl) rfl ?_
          refine j_goto (pc := 105) (tgt := 109) (jd k_Mod_fault 56 rfl) rfl ?_
          cases H
          exact j_pick [] rfl K27
    have H := h19
    refine j_if_eq (pc := 22) (tgt := 32) (jd k_Mod_fault 13 rfl) rfl (fun h6 => ?_) (fun h6 => ?_)
    · rw [if_pos h6] at H
      refine j_iconst (pc := 32) (v := 1) (jd k_Mod_fault 17 rfl) (by decide) ?_
      refine j_goto (pc := 33) (tgt := 77) (jd k_Mod_fault 18 rfl) rfl ?_
      cases H
      exact K20
    · rw [if_neg h6] at H
      refine j_aload_n (pc := 25) 0 (jd k_Mod_fault 14 rfl) rfl ?_
      refine j_get (pc := 26) (fs := flR ad s) (v := .int (s 18 0)) fl_Mod_231_10 0 (jd k_Mod_fault 15 rfl) rfl rfl ?_
      refine j_if_le (pc := 29) (tgt := 36) (jd k_Mod_fault 16 rfl) rfl (fun h7 => ?_) (fun h7 => ?_)
      · rw [if_pos h7] at H
        refine j_iload_n (pc := 36) 2 (jd k_Mod_fault 19 rfl) rfl ?_
        refine j_if_lt (pc := 37) (tgt := 72) (jd k_Mod_fault 20 rfl) rfl (fun h8 => ?_) (fun h8 => ?_)
        · rw [if_pos h8] at H
          refine j_iconst (pc := 72) (v := 2) (jd k_Mod_fault 37 rfl) (by decide) ?_
          refine j_goto (pc := 73) (tgt := 77) (jd k_Mod_fault 38 rfl) rfl ?_
          cases H
          exact K20
        · rw [if_neg h8] at H
          refine j_iload_n (pc := 40) 2 (jd k_Mod_fault 21 rfl) rfl ?_
          refine j_bipush (pc := 41) (v := 6) (jd k_Mod_fault 22 rfl) (by decide) ?_
          refine j_icmp_gt (pc := 43) (tgt := 72) (jd k_Mod_fault 23 rfl) rfl (fun h9 => ?_) (fun h9 => ?_)
          · rw [if_pos h9] at H
            refine j_iconst (pc := 72) (v := 2) (jd k_Mod_fault 37 rfl) (by decide) ?_
            refine j_goto (pc := 73) (tgt := 77) (jd k_Mod_fault 38 rfl) rfl ?_
            cases H
            exact K20
          · rw [if_neg h9] at H
            refine j_aload_n (pc := 46) 0 (jd k_Mod_fault 24 rfl) rfl ?_
            refine j_iload_n (pc := 47) 1 (jd k_Mod_fault 25 rfl) rfl ?_
            obtain ⟨x10, h11, H⟩ := obnd H
            refine jc_V (pc := 48) (st := [.ref (ad 0)]) (c_Mod_isParty ad G p0 s _ h11) L0_Mod_isParty w1324 w1326 w36 0 rfl rfl (jd k_Mod_fault 26 rfl) rfl (Nat.le_of_ble_eq_true rfl) (by decide) (Nat.le_refl _) (Nat.le_refl _) rfl rfl ?_
            refine j_if_eq (pc := 51) (tgt := 72) (jd k_Mod_fault 27 rfl) rfl (fun h12 => ?_) (fun h12 => ?_)
            · rw [if_pos h12] at H
              refine j_iconst (pc := 72) (v := 2) (jd k_Mod_fault 37 rfl) (by decide) ?_
              refine j_goto (pc := 73) (tgt := 77) (jd k_Mod_fault 38 rfl) rfl ?_
              cases H
              exact K20
            · rw [if_neg h12] at H
              refine j_iload (pc := 54) 4 (jd k_Mod_fault 28 rfl) rfl ?_
              refine j_if_eq (pc := 56) (tgt := 76) (jd k_Mod_fault 29 rfl) rfl (fun h13 => ?_) (fun h13 => ?_)
              · rw [if_pos h13] at H
                refine j_iconst (pc := 76) (v := 0) (jd k_Mod_fault 39 rfl) (by decide) ?_
                cases H
                exact K20
              · rw [if_neg h13] at H
                refine j_aload_n (pc := 59) 0 (jd k_Mod_fault 30 rfl) rfl ?_
                refine j_iload_n (pc := 60) 3 (jd k_Mod_fault 31 rfl) rfl ?_
                obtain ⟨x14, h15, H⟩ := obnd H
                refine jc_V (pc := 61) (st := [.ref (ad 0)]) (c_Mod_isParty ad G p2 s _ h15) L0_Mod_isParty w1324 w1326 w36 0 rfl rfl (jd k_Mod_fault 32 rfl) rfl (Nat.le_of_ble_eq_true rfl) (by decide) (Nat.le_refl _) (Nat.le_refl _) rfl rfl ?_
                refine j_if_eq (pc := 64) (tgt := 72) (jd k_Mod_fault 33 rfl) rfl (fun h16 => ?_) (fun h16 => ?_)
                · rw [if_pos h16] at H
                  refine j_iconst (pc := 72) (v := 2) (jd k_Mod_fault 37 rfl) (by decide) ?_
                  refine j_goto (pc := 73) (tgt := 77) (jd k_Mod_fault 38 rfl) rfl ?_
                  cases H
                  exact K20
                · rw [if_neg h16] at H
                  refine j_iload_n (pc := 67) 3 (jd k_Mod_fault 34 rfl) rfl ?_
                  refine j_iload_n (pc := 68) 1 (jd k_Mod_fault 35 rfl) rfl ?_
                  refine j_icmp_ne (pc := 69) (tgt := 76) (jd k_Mod_fault 36 rfl) rfl (fun h17 => ?_) (fun h17 => ?_)
                  · rw [if_pos h17] at H
                    refine j_iconst (pc := 76) (v := 0) (jd k_Mod_fault 39 rfl) (by decide) ?_
                    cases H
                    exact K20
                  · rw [if_neg (not_not_intro h17)] at H
                    refine j_iconst (pc := 72) (v := 2) (jd k_Mod_fault 37 rfl) (by decide) ?_
                    refine j_goto (pc := 73) (tgt := 77) (jd k_Mod_fault 38 rfl) rfl ?_
                    cases H
                    exact K20
      · rw [if_neg h7] at H
        refine j_iconst (pc := 32) (v := 1) (jd k_Mod_fault 17 rfl) (by decide) ?_
        refine j_goto (pc := 33) (tgt := 77) (jd k_Mod_fault 18 rfl) rfl ?_
        cases H
        exact K20
  have H := h4
  refine j_icmp_eq (pc := 2) (tgt := 10) (jd k_Mod_fault 2 rfl) rfl (fun h1 => ?_) (fun h1 => ?_)
  · rw [if_pos h1] at H
    refine j_iconst (pc := 10) (v := 1) (jd k_Mod_fault 6 rfl) (by decide) ?_
    refine j_goto (pc := 11) (tgt := 15) (jd k_Mod_fault 7 rfl) rfl ?_
    cases H
    exact K5
  · rw [if_neg h1] at H
    refine j_iload_n (pc := 5) 2 (jd k_Mod_fault 3 rfl) rfl ?_
    refine j_iconst (pc := 6) (v := 2) (jd k_Mod_fault 4 rfl) (by decide) ?_
    refine j_icmp_ne (pc := 7) (tgt := 14) (jd k_Mod_fault 5 rfl) rfl (fun h2 => ?_) (fun h2 => ?_)
    · rw [if_pos h2] at H
      refine j_iconst (pc := 14) (v := 0) (jd k_Mod_fault 8 rfl) (by decide) ?_
      cases H
      exact K5
    · rw [if_neg (not_not_intro h2)] at H
      refine j_iconst (pc := 10) (v := 1) (jd k_Mod_fault 6 rfl) (by decide) ?_
      refine j_goto (pc := 11) (tgt := 15) (jd k_Mod_fault 7 rfl) rfl ?_
      cases H
      exact K5

set_option maxRecDepth 20000 in
theorem c_Mod_crash (ad : Nat → Nat) (G : jG) (p0 : Int32) (p1 : Int32) (s : jS) (r : jS) (H : f_Mod_crash p0 p1 s = some r) : jCon G m_Mod_crash y_Mod_crash 1 0 0 [.ref (ad 0), .int p0, .int p1] (mkR ad G s) (jEq none (mkR ad G r)) := by
  refine jCon.of (by decide +kernel) rfl rfl rfl (Nat.le_of_ble_eq_true rfl) rfl ?_
  have H : (
  Option.bind (α := Int32) (
    if (s 15 0) = 0 then
      some 1
    else
      if (s 18 0) ≤ 0 then
        Option.bind (f_Mod_isParty p0 s) fun x3 =>
        if x3 = 0 then
          some 2
        else
          if p1 < 1 then
            some 2
          else
            if p1 ≤ 8 then
              some 0
            else
              some 2
      else
        some 1) fun x8 =>
  jlet (va_up s 0 (fun _ => x8)) fun s11 =>
  Option.bind (α := jS) (
    if ¬ (s11 0 0) = 0 then
      some s11
    else
      if jin (p0 - 1) 7 then
      jlet (va_up s11 22 (upd (s11 22) (p0 - 1).toNatClampNeg p1)) fun s14 =>
      some s14
      else none) fun s17 =>
  some s17) = some r := H
  generalize hP9 : jEq none (mkR ad G r) = P
  refine j_aload_n (pc := 0) 0 (jd k_Mod_crash 0 rfl) rfl ?_
  refine j_aload_n (pc := 1) 0 (jd k_Mod_crash 1 rfl) rfl ?_
  refine j_get (pc := 2) (fs := flR ad s) (v := .int (s 15 0)) fl_Mod_203_10 0 (jd k_Mod_crash 2 rfl) rfl rfl ?_
  obtain ⟨x8, h9, H⟩ := obnd H
  have K10 : J G m_Mod_crash 1 0 0 P 43 [(0, .ref (ad 0)), (1, .int p0), (2, .int p1)] [.int x8, .ref (ad 0)] (mkR ad G s) 0 0 := by
    obtain ⟨s11, e12, H⟩ := olet H
    refine j_put (pc := 43) (fs := flR ad s) (fp_Mod_170_10 _) 0 (jd k_Mod_crash 22 rfl) rfl rfl rfl (Nat.le_of_ble_eq_true rfl) ((wpR_0 ad G s _).trans (congrArg (mkR ad G) e12)) ?_
    refine j_aload_n (pc := 46) 0 (jd k_Mod_crash 23 rfl) rfl ?_
    refine j_get (pc := 47) (fs := flR ad s11) (v := .int (s11 0 0)) fl_Mod_170_10 0 (jd k_Mod_crash 24 rfl) rfl rfl ?_
    obtain ⟨s17, h18, H⟩ := obnd H
    have K19 : J G m_Mod_crash 1 0 0 P 62 [] [] (mkR ad G s17) 0 0 := by
      cases H
      subst hP9
      exact j_vret (pc := 62) (jd k_Mod_crash 33 rfl) rfl ⟨rfl, rfl⟩
    have H := h18
    refine j_if_ne (pc := 50) (tgt := 62) (jd k_Mod_crash 25 rfl) rfl (fun h13 => ?_) (fun h13 => ?_)
    · rw [if_pos h13] at H
      cases H
      exact j_pick [] rfl K19
    · rw [if_neg (not_not_intro h13)] at H
      refine j_aload_n (pc := 53) 0 (jd k_Mod_crash 26 rfl) rfl ?_
      refine j_get (pc := 54) (fs := flR ad s11) (v := .ref (ad 10)) fl_Mod_37_10 0 (jd k_Mod_crash 27 rfl) rfl rfl ?_
      refine j_iload_n (pc := 57) 1 (jd k_Mod_crash 28 rfl) rfl ?_
      refine j_iconst (pc := 58) (v := 1) (jd k_Mod_crash 29 rfl) (by decide) ?_
      refine j_isub (pc := 59) (jd k_Mod_crash 30 rfl) ?_
      refine j_iload_n (pc := 60) 2 (jd k_Mod_crash 31 rfl) rfl ?_
      obtain ⟨h16, H⟩ := ochk H
      obtain ⟨s14, e15, H⟩ := olet H
      refine j_iast (pc := 61) (f := s11 22) 10 (jd k_Mod_crash 32 rfl) rfl (jin.vp h16) ((waR_22 ad G s11 _).trans (congrArg (mkR ad G) e15)) ?_
      cases H
      exact j_pick [] rfl K19
  have H := h9
  refine j_if_eq (pc := 5) (tgt := 15) (jd k_Mod_crash 3 rfl) rfl (fun h1 => ?_) (fun h1 => ?_)
  · rw [if_pos h1] at H
    refine j_iconst (pc := 15) (v := 1) (jd k_Mod_crash 7 rfl) (by decide) ?_
    refine j_goto (pc := 16) (tgt := 43) (jd k_Mod_crash 8 rfl) rfl ?_
    cases H
    exact K10
  · rw [if_neg h1] at H
    refine j_aload_n (pc := 8) 0 (jd k_Mod_crash 4 rfl) rfl ?_
    refine j_get (pc := 9) (fs := flR ad s) (v := .int (s 18 0)) fl_Mod_231_10 0 (jd k_Mod_crash 5 rfl) rfl rfl ?_
    refine j_if_le (pc := 12) (tgt := 19) (jd k_Mod_crash 6 rfl) rfl (fun h2 => ?_) (fun h2 => ?_)
    · rw [if_pos h2] at H
      refine j_aload_n (pc := 19) 0 (jd k_Mod_crash 9 rfl) rfl ?_
      refine j_iload_n (pc := 20) 1 (jd k_Mod_crash 10 rfl) rfl ?_
      obtain ⟨x3, h4, H⟩ := obnd H
      refine jc_V (pc := 21) (st := [.ref (ad 0)]) (c_Mod_isParty ad G p0 s _ h4) L0_Mod_isParty w1324 w1326 w36 0 rfl rfl (jd k_Mod_crash 11 rfl) rfl (Nat.le_of_ble_eq_true rfl) (by decide) (Nat.le_refl _) (Nat.le_refl _) rfl rfl ?_
      refine j_if_eq (pc := 24) (tgt := 38) (jd k_Mod_crash 12 rfl) rfl (fun h5 => ?_) (fun h5 => ?_)
      · rw [if_pos h5] at H
        refine j_iconst (pc := 38) (v := 2) (jd k_Mod_crash 19 rfl) (by decide) ?_
        refine j_goto (pc := 39) (tgt := 43) (jd k_Mod_crash 20 rfl) rfl ?_
        cases H
        exact K10
      · rw [if_neg h5] at H
        refine j_iload_n (pc := 27) 2 (jd k_Mod_crash 13 rfl) rfl ?_
        refine j_iconst (pc := 28) (v := 1) (jd k_Mod_crash 14 rfl) (by decide) ?_
        refine j_icmp_lt (pc := 29) (tgt := 38) (jd k_Mod_crash 15 rfl) rfl (fun h6 => ?_) (fun h6 => ?_)
        · rw [if_pos h6] at H
          refine j_iconst (pc := 38) (v := 2) (jd k_Mod_crash 19 rfl) (by decide) ?_
          refine j_goto (pc := 39) (tgt := 43) (jd k_Mod_crash 20 rfl) rfl ?_
          cases H
          exact K10
        · rw [if_neg h6] at H
          refine j_iload_n (pc := 32) 2 (jd k_Mod_crash 16 rfl) rfl ?_
          refine j_bipush (pc := 33) (v := 8) (jd k_Mod_crash 17 rfl) (by decide) ?_
          refine j_icmp_le (pc := 35) (tgt := 42) (jd k_Mod_crash 18 rfl) rfl (fun h7 => ?_) (fun h7 => ?_)
          · rw [if_pos h7] at H
            refine j_iconst (pc := 42) (v := 0) (jd k_Mod_crash 21 rfl) (by decide) ?_
            cases H
            exact K10
          · rw [if_neg h7] at H
            refine j_iconst (pc := 38) (v := 2) (jd k_Mod_crash 19 rfl) (by decide) ?_
            refine j_goto (pc := 39) (tgt := 43) (jd k_Mod_crash 20 rfl) rfl ?_
            cases H
            exact K10
    · rw [if_neg h2] at H
      refine j_iconst (pc := 15) (v := 1) (jd k_Mod_crash 7 rfl) (by decide) ?_
      refine j_goto (pc := 16) (tgt := 43) (jd k_Mod_crash 8 rfl) rfl ?_
      cases H
      exact K10

set_option maxRecDepth 20000 in
theorem c_Mod_works (ad : Nat → Nat) (G : jG) (p0 : Int32) (p1 : Int32) (s : jS) (r : Int32) (H : f_Mod_works p0 p1 s = some r) : jCon G m_Mod_works y_Mod_works 0 0 0 [.ref (ad 0), .int p0, .int p1] (mkR ad G s) (jEq (some (.int r)) (mkR ad G s)) := by
  refine jCon.of (by decide +kernel) rfl rfl rfl (Nat.le_of_ble_eq_true rfl) rfl ?_
  have H : (
  if jin (p0 - 1) 7 then
  Option.bind (α := Int32) (
    if (s 22 (p0 - 1).toNatClampNeg) = 8 then
      some 1
    else
      if jin (p0 - 1) 7 then
      if (s 22 (p0 - 1).toNatClampNeg) ≤ p1 then
        some 0
      else
        some 1
      else none) fun x5 =>
  if jbo x5 then
  some x5
  else none
  else none) = some r := H
  generalize hP9 : jEq (some (.int r)) (mkR ad G s) = P
  refine j_aload_n (pc := 0) 0 (jd k_Mod_works 0 rfl) rfl ?_
  refine j_get (pc := 1) (fs := flR ad s) (v := .ref (ad 10)) fl_Mod_37_10 0 (jd k_Mod_works 1 rfl) rfl rfl ?_
  refine j_iload_n (pc := 4) 1 (jd k_Mod_works 2 rfl) rfl ?_
  refine j_iconst (pc := 5) (v := 1) (jd k_Mod_works 3 rfl) (by decide) ?_
  refine j_isub (pc := 6) (jd k_Mod_works 4 rfl) ?_
  obtain ⟨h1, H⟩ := ochk H
  refine j_iald (pc := 7) (f := s 22) 10 (jd k_Mod_works 5 rfl) rfl (jin.vp h1) ?_
  refine j_bipush (pc := 8) (v := 8) (jd k_Mod_works 6 rfl) (by decide) ?_
  obtain ⟨x5, h6, H⟩ := obnd H
  have K7 : J G m_Mod_works 0 0 0 P 30 [] [.int x5] (mkR ad G s) 0 0 := by
    obtain ⟨h8, H⟩ := ochk H
    cases H
    subst hP9
    exact j_iret (pc := 30) (jd k_Mod_works 19 rfl) rfl (jbo.nar h8) ⟨rfl, rfl⟩
  have H := h6
  refine j_icmp_eq (pc := 10) (tgt := 25) (jd k_Mod_works 7 rfl) rfl (fun h2 => ?_) (fun h2 => ?_)
  · rw [if_pos h2] at H
    refine j_iconst (pc := 25) (v := 1) (jd k_Mod_works 16 rfl) (by decide) ?_
    refine j_goto (pc := 26) (tgt := 30) (jd k_Mod_works 17 rfl) rfl ?_
    cases H
    exact j_pick [] rfl K7
  · rw [if_neg h2] at H
    refine j_iload_n (pc := 13) 2 (jd k_Mod_works 8 rfl) rfl ?_
    refine j_aload_n (pc := 14) 0 (jd k_Mod_works 9 rfl) rfl ?_
    refine j_get (pc := 15) (fs := flR ad s) (v := .ref (ad 10)) fl_Mod_37_10 0 (jd k_Mod_works 10 rfl) rfl rfl ?_
    refine j_iload_n (pc := 18) 1 (jd k_Mod_works 11 rfl) rfl ?_
    refine j_iconst (pc := 19) (v := 1) (jd k_Mod_works 12 rfl) (by decide) ?_
    refine j_isub (pc := 20) (jd k_Mod_works 13 rfl) ?_
    obtain ⟨h3, H⟩ := ochk H
    refine j_iald (pc := 21) (f := s 22) 10 (jd k_Mod_works 14 rfl) rfl (jin.vp h3) ?_
    refine j_icmp_ge (pc := 22) (tgt := 29) (jd k_Mod_works 15 rfl) rfl (fun h4 => ?_) (fun h4 => ?_)
    · rw [if_pos h4] at H
      refine j_iconst (pc := 29) (v := 0) (jd k_Mod_works 18 rfl) (by decide) ?_
      cases H
      exact j_pick [] rfl K7
    · rw [if_neg h4] at H
      refine j_iconst (pc := 25) (v := 1) (jd k_Mod_works 16 rfl) (by decide) ?_
      refine j_goto (pc := 26) (tgt := 30) (jd k_Mod_works 17 rfl) rfl ?_
      cases H
      exact j_pick [] rfl K7

set_option maxRecDepth 20000 in
theorem c_Mod_is (ad : Nat → Nat) (G : jG) (p0 : Int32) (p1 : Int32) (s : jS) (r : Int32) (H : f_Mod_is p0 p1 s = some r) : jCon G m_Mod_is y_Mod_is 0 0 0 [.ref (ad 0), .int p0, .int p1] (mkR ad G s) (jEq (some (.int r)) (mkR ad G s)) := by
  refine jCon.of (by decide +kernel) rfl rfl rfl (Nat.le_of_ble_eq_true rfl) rfl ?_
  have H : (
  if jin (((7 * p1) + p0) - 1) 49 then
  Option.bind (α := Int32) (
    if (s 21 (((7 * p1) + p0) - 1).toNatClampNeg) ≤ 0 then
      some 0
    else
      some 1) fun x3 =>
  if jbo x3 then
  some x3
  else none
  else none) = some r := H
  generalize hP9 : jEq (some (.int r)) (mkR ad G s) = P
  refine j_aload_n (pc := 0) 0 (jd k_Mod_is 0 rfl) rfl ?_
  refine j_get (pc := 1) (fs := flR ad s) (v := .ref (ad 9)) fl_Mod_34_10 0 (jd k_Mod_is 1 rfl) rfl rfl ?_
  refine j_bipush (pc := 4) (v := 7) (jd k_Mod_is 2 rfl) (by decide) ?_
  refine j_iload_n (pc := 6) 2 (jd k_Mod_is 3 rfl) rfl ?_
  refine j_imul (pc := 7) (jd k_Mod_is 4 rfl) ?_
  refine j_iload_n (pc := 8) 1 (jd k_Mod_is 5 rfl) rfl ?_
  refine j_iadd (pc := 9) (jd k_Mod_is 6 rfl) ?_
  refine j_iconst (pc := 10) (v := 1) (jd k_Mod_is 7 rfl) (by decide) ?_
  refine j_isub (pc := 11) (jd k_Mod_is 8 rfl) ?_
  obtain ⟨h1, H⟩ := ochk H
  refine j_iald (pc := 12) (f := s 21) 9 (jd k_Mod_is 9 rfl) rfl (jin.vp h1) ?_
  obtain ⟨x3, h4, H⟩ := obnd H
  have K5 : J G m_Mod_is 0 0 0 P 21 [] [.int x3] (mkR ad G s) 0 0 := by
    obtain ⟨h6, H⟩ := ochk H
    cases H
    subst hP9
    exact j_iret (pc := 21) (jd k_Mod_is 14 rfl) rfl (jbo.nar h6) ⟨rfl, rfl⟩
  have H := h4
  refine j_if_le (pc := 13) (tgt := 20) (jd k_Mod_is 10 rfl) rfl (fun h2 => ?_) (fun h2 => ?_)
  · rw [if_pos h2] at H
    refine j_iconst (pc := 20) (v := 0) (jd k_Mod_is 13 rfl) (by decide) ?_
    cases H
    exact j_pick [] rfl K5
  · rw [if_neg h2] at H
    refine j_iconst (pc := 16) (v := 1) (jd k_Mod_is 11 rfl) (by decide) ?_
    refine j_goto (pc := 17) (tgt := 21) (jd k_Mod_is 12 rfl) rfl ?_
    cases H
    exact j_pick [] rfl K5

set_option maxRecDepth 20000 in
theorem c_Mod_show (ad : Nat → Nat) (G : jG) (p0 : Int32) (s : jS) (r : jS) (H : f_Mod_show p0 s = some r) : jCon G m_Mod_show y_Mod_show 0 0 0 [.ref (ad 0), .int p0] (mkR ad G s) (jEq none (mkR ad G r)) := by
  refine jCon.of (by decide +kernel) rfl rfl rfl (Nat.le_of_ble_eq_true rfl) rfl ?_
  have H : (
  if jin (s 40 0) 1100 then
  jlet (va_up s 41 (upd (s 41) (s 40 0).toNatClampNeg p0)) fun s1 =>
  jlet (va_up s1 40 (fun _ => (s1 40 0) + 1)) fun s4 =>
  some s4
  else none) = some r := H
  generalize hP9 : jEq none (mkR ad G r) = P
  refine j_aload_n (pc := 0) 0 (jd k_Mod_show 0 rfl) rfl ?_
  refine j_get (pc := 1) (fs := flR ad s) (v := .ref (ad 22)) fl_Mod_73_10 0 (jd k_Mod_show 1 rfl) rfl rfl ?_
  refine j_aload_n (pc := 4) 0 (jd k_Mod_show 2 rfl) rfl ?_
  refine j_get (pc := 5) (fs := flR ad s) (v := .int (s 40 0)) fl_Mod_234_10 0 (jd k_Mod_show 3 rfl) rfl rfl ?_
  refine j_iload_n (pc := 8) 1 (jd k_Mod_show 4 rfl) rfl ?_
  obtain ⟨h3, H⟩ := ochk H
  obtain ⟨s1, e2, H⟩ := olet H
  refine j_iast (pc := 9) (f := s 41) 22 (jd k_Mod_show 5 rfl) rfl (jin.vp h3) ((waR_41 ad G s _).trans (congrArg (mkR ad G) e2)) ?_
  refine j_aload_n (pc := 10) 0 (jd k_Mod_show 6 rfl) rfl ?_
  refine j_dup (pc := 11) (jd k_Mod_show 7 rfl) rfl ?_
  refine j_get (pc := 12) (fs := flR ad s1) (v := .int (s1 40 0)) fl_Mod_234_10 0 (jd k_Mod_show 8 rfl) rfl rfl ?_
  refine j_iconst (pc := 15) (v := 1) (jd k_Mod_show 9 rfl) (by decide) ?_
  refine j_iadd (pc := 16) (jd k_Mod_show 10 rfl) ?_
  obtain ⟨s4, e5, H⟩ := olet H
  refine j_put (pc := 17) (fs := flR ad s1) (fp_Mod_234_10 _) 0 (jd k_Mod_show 11 rfl) rfl rfl rfl (Nat.le_of_ble_eq_true rfl) ((wpR_40 ad G s1 _).trans (congrArg (mkR ad G) e5)) ?_
  cases H
  subst hP9
  exact j_vret (pc := 20) (jd k_Mod_show 12 rfl) rfl ⟨rfl, rfl⟩

set_option maxRecDepth 20000 in
theorem c_Mod_element (ad : Nat → Nat) (G : jG) (p0 : Int32) (s : jS) (r : Int32) (H : f_Mod_element p0 s = some r) : jCon G m_Mod_element y_Mod_element 0 0 0 [.ref (ad 0), .int p0] (mkR ad G s) (jEq (some (.int r)) (mkR ad G s)) := by
  refine jCon.of (by decide +kernel) rfl rfl rfl (Nat.le_of_ble_eq_true rfl) rfl ?_
  have H : (
  Option.bind (α := Int32) (
    if ¬ (s 9 0) = 0 then
      if jin p0 31 then
      some (s 7 p0.toNatClampNeg)
      else none
    else
      if jin p0 1019 then
      some (s 6 p0.toNatClampNeg)
      else none) fun x4 =>
  some x4) = some r := H
  generalize hP9 : jEq (some (.int r)) (mkR ad G s) = P
  refine j_aload_n (pc := 0) 0 (jd k_Mod_element 0 rfl) rfl ?_
  refine j_get (pc := 1) (fs := flR ad s) (v := .int (s 9 0)) fl_Mod_210_10 0 (jd k_Mod_element 1 rfl) rfl rfl ?_
  obtain ⟨x4, h5, H⟩ := obnd H
  have K6 : J G m_Mod_element 0 0 0 P 22 [] [.int x4] (mkR ad G s) 0 0 := by
    cases H
    subst hP9
    exact j_iret (pc := 22) (jd k_Mod_element 12 rfl) rfl rfl ⟨rfl, rfl⟩
  have H := h5
  refine j_if_ne (pc := 4) (tgt := 16) (jd k_Mod_element 2 rfl) rfl (fun h1 => ?_) (fun h1 => ?_)
  · rw [if_pos h1] at H
    refine j_aload_n (pc := 16) 0 (jd k_Mod_element 8 rfl) rfl ?_
    refine j_get (pc := 17) (fs := flR ad s) (v := .ref (ad 5)) fl_Mod_22_10 0 (jd k_Mod_element 9 rfl) rfl rfl ?_
    refine j_iload_n (pc := 20) 1 (jd k_Mod_element 10 rfl) rfl ?_
    obtain ⟨h2, H⟩ := ochk H
    refine j_iald (pc := 21) (f := s 7) 5 (jd k_Mod_element 11 rfl) rfl (jin.vp h2) ?_
    cases H
    exact j_pick [] rfl K6
  · rw [if_neg (not_not_intro h1)] at H
    refine j_aload_n (pc := 7) 0 (jd k_Mod_element 3 rfl) rfl ?_
    refine j_get (pc := 8) (fs := flR ad s) (v := .ref (ad 4)) fl_Mod_19_10 0 (jd k_Mod_element 4 rfl) rfl rfl ?_
    refine j_iload_n (pc := 11) 1 (jd k_Mod_element 5 rfl) rfl ?_
    obtain ⟨h3, H⟩ := ochk H
    refine j_iald (pc := 12) (f := s 6) 4 (jd k_Mod_element 6 rfl) rfl (jin.vp h3) ?_
    refine j_goto (pc := 13) (tgt := 22) (jd k_Mod_element 7 rfl) rfl ?_
    cases H
    exact j_pick [] rfl K6

set_option maxRecDepth 20000 in
theorem c_Mod_showTwo (ad : Nat → Nat) (G : jG) (p0 : Int32) (s : jS) (r : jS) (H : f_Mod_showTwo p0 s = some r) : jCon G m_Mod_showTwo y_Mod_showTwo 1 0 0 [.ref (ad 0), .int p0] (mkR ad G s) (jEq none (mkR ad G r)) := by
  refine jCon.of (by decide +kernel) rfl rfl rfl (Nat.le_of_ble_eq_true rfl) rfl ?_
  have H : (
  Option.bind (f_Mod_show (p0 >>> (8 &&& 31)) s) fun s1 =>
  Option.bind (f_Mod_show (p0 &&& 255) s1) fun s3 =>
  some s3) = some r := H
  generalize hP9 : jEq none (mkR ad G r) = P
  refine j_aload_n (pc := 0) 0 (jd k_Mod_showTwo 0 rfl) rfl ?_
  refine j_iload_n (pc := 1) 1 (jd k_Mod_showTwo 1 rfl) rfl ?_
  refine j_bipush (pc := 2) (v := 8) (jd k_Mod_showTwo 2 rfl) (by decide) ?_
  refine j_ishr (pc := 4) (jd k_Mod_showTwo 3 rfl) ?_
  obtain ⟨s1, h2, H⟩ := obnd H
  refine jc_V (pc := 5) (st := []) (c_Mod_show ad G (p0 >>> (8 &&& 31)) s _ h2) L0_Mod_show w1352 w1354 w40 0 rfl rfl (jd k_Mod_showTwo 4 rfl) rfl (Nat.le_of_ble_eq_true rfl) (by decide) (Nat.le_refl _) (Nat.le_refl _) rfl rfl ?_
  refine j_aload_n (pc := 8) 0 (jd k_Mod_showTwo 5 rfl) rfl ?_
  refine j_iload_n (pc := 9) 1 (jd k_Mod_showTwo 6 rfl) rfl ?_
  refine j_sipush (pc := 10) (v := 255) (jd k_Mod_showTwo 7 rfl) (by decide) ?_
  refine j_iand (pc := 13) (jd k_Mod_showTwo 8 rfl) ?_
  obtain ⟨s3, h4, H⟩ := obnd H
  refine jc_V (pc := 14) (st := []) (c_Mod_show ad G (p0 &&& 255) s1 _ h4) L0_Mod_show w1352 w1354 w40 0 rfl rfl (jd k_Mod_showTwo 9 rfl) rfl (Nat.le_of_ble_eq_true rfl) (by decide) (Nat.le_refl _) (Nat.le_refl _) rfl rfl ?_
  cases H
  subst hP9
  exact j_vret (pc := 17) (jd k_Mod_showTwo 10 rfl) rfl ⟨rfl, rfl⟩

set_option maxRecDepth 20000 in
theorem c_Mod_at (ad : Nat → Nat) (G : jG) (p0 : Int32) (p1 : Int32) (s : jS) (r : Int32) (H : f_Mod_at p0 p1 s = some r) : jCon G m_Mod_at y_Mod_at 0 0 0 [.ref (ad 0), .int p0, .int p1] (mkR ad G s) (jEq (some (.int r)) (mkR ad G s)) := by
  refine jCon.of (by decide +kernel) rfl rfl rfl (Nat.le_of_ble_eq_true rfl) rfl ?_
  have H : (
  some ((((7 * p0) - 7) + p1) - 1)) = some r := H
  generalize hP9 : jEq (some (.int r)) (mkR ad G s) = P
  refine j_bipush (pc := 0) (v := 7) (jd k_Mod_at 0 rfl) (by decide) ?_
  refine j_iload_n (pc := 2) 1 (jd k_Mod_at 1 rfl) rfl ?_
  refine j_imul (pc := 3) (jd k_Mod_at 2 rfl) ?_
  refine j_bipush (pc := 4) (v := 7) (jd k_Mod_at 3 rfl) (by decide) ?_
  refine j_isub (pc := 6) (jd k_Mod_at 4 rfl) ?_
  refine j_iload_n (pc := 7) 2 (jd k_Mod_at 5 rfl) rfl ?_
  refine j_iadd (pc := 8) (jd k_Mod_at 6 rfl) ?_
  refine j_iconst (pc := 9) (v := 1) (jd k_Mod_at 7 rfl) (by decide) ?_
  refine j_isub (pc := 10) (jd k_Mod_at 8 rfl) ?_
  cases H
  subst hP9
  exact j_iret (pc := 11) (jd k_Mod_at 9 rfl) rfl rfl ⟨rfl, rfl⟩

set_option maxRecDepth 20000 in
theorem lp_Mod_power_5 {ad : Nat → Nat} {G : jG} {P : jR → va_W → Prop} (p0 : Int32) (p1 : Int32) (s : jS) : ∀ (n : Nat) (x1 : Int32) (x2 : Int32) (r : Int32 × Int32), L_Mod_power_5 p0 p1 s n x1 x2 = some r → J G m_Mod_power 0 0 0 P 26 [(0, .ref (ad 0)), (1, .int p0), (2, .int p1), (3, .int r.1), (4, .int r.2)] [] (mkR ad G s) 0 0 → J G m_Mod_power 0 0 0 P 5 [(0, .ref (ad 0)), (1, .int p0), (2, .int p1), (3, .int x1), (4, .int x2)] [] (mkR ad G s) 0 0 := by
  intro n
  induction n with
  | zero =>
    intro x1 x2 r H
    cases (show none = some r from H)
  | succ n ih =>
    intro x1 x2 r H kx
    have H : (
    if p1 ≤ x2 then
      some (x1, x2)
    else
      if ¬ (s 10 0) = 0 then
      jlet (jrem (x1 * p0) (s 10 0)) fun x5 =>
      jlet (x2 + 1) fun x6 =>
      L_Mod_power_5 p0 p1 s n x5 x6
      else none) = some r := H
    refine j_iload (pc := 5) 4 (jd k_Mod_power 4 rfl) rfl ?_
    refine j_iload_n (pc := 7) 2 (jd k_Mod_power 5 rfl) rfl ?_
    refine j_icmp_ge (pc := 8) (tgt := 26) (jd k_Mod_power 6 rfl) rfl (fun h3 => ?_) (fun h3 => ?_)
    · rw [if_pos h3] at H
      cases H
      exact kx
    · rw [if_neg h3] at H
      refine j_iload_n (pc := 11) 3 (jd k_Mod_power 7 rfl) rfl ?_
      refine j_iload_n (pc := 12) 1 (jd k_Mod_power 8 rfl) rfl ?_
      refine j_imul (pc := 13) (jd k_Mod_power 9 rfl) ?_
      refine j_aload_n (pc := 14) 0 (jd k_Mod_power 10 rfl) rfl ?_
      refine j_get (pc := 15) (fs := flR ad s) (v := .int (s 10 0)) fl_Mod_213_10 0 (jd k_Mod_power 11 rfl) rfl rfl ?_
      obtain ⟨h4, H⟩ := ochk H
      refine j_irem (pc := 18) (jd k_Mod_power 12 rfl) h4 ?_
      obtain ⟨x5, e8, H⟩ := olet H
      refine j_topi e8 ?_
      refine j_istore_n (pc := 19) (lv' := [(0, .ref (ad 0)), (1, .int p0), (2, .int p1), (3, .int x5), (4, .int x2)]) (jd k_Mod_power 13 rfl) rfl (Nat.le_of_ble_eq_true rfl) rfl ?_
      obtain ⟨x6, e7, H⟩ := olet H
      refine j_iinc (pc := 20) (lv' := [(0, .ref (ad 0)), (1, .int p0), (2, .int p1), (3, .int x5), (4, .int x6)]) 4 (jd k_Mod_power 14 rfl) rfl e7 rfl (Nat.le_of_ble_eq_true rfl) rfl ?_
      refine j_goto (pc := 23) (tgt := 5) (jd k_Mod_power 15 rfl) rfl ?_
      exact ih x5 x6 _ H kx

set_option maxRecDepth 20000 in
theorem c_Mod_power (ad : Nat → Nat) (G : jG) (p0 : Int32) (p1 : Int32) (s : jS) (r : Int32) (H : f_Mod_power p0 p1 s = some r) : jCon G m_Mod_power y_Mod_power 0 0 0 [.ref (ad 0), .int p0, .int p1] (mkR ad G s) (jEq (some (.int r)) (mkR ad G s)) := by
  refine jCon.of (by decide +kernel) rfl rfl rfl (Nat.le_of_ble_eq_true rfl) rfl ?_
  have H : (
  Option.bind (L_Mod_power_5 p0 p1 s jF 1 0) fun (x9, x10) =>
  some x9) = some r := H
  generalize hP9 : jEq (some (.int r)) (mkR ad G s) = P
  refine j_iconst (pc := 0) (v := 1) (jd k_Mod_power 0 rfl) (by decide) ?_
  refine j_istore_n (pc := 1) (lv' := [(0, .ref (ad 0)), (1, .int p0), (2, .int p1), (3, .int 1)]) (jd k_Mod_power 1 rfl) rfl (Nat.le_of_ble_eq_true rfl) rfl ?_
  refine j_iconst (pc := 2) (v := 0) (jd k_Mod_power 2 rfl) (by decide) ?_
  refine j_istore (pc := 3) (lv' := [(0, .ref (ad 0)), (1, .int p0), (2, .int p1), (3, .int 1), (4, .int 0)]) (jd k_Mod_power 3 rfl) rfl (Nat.le_of_ble_eq_true rfl) rfl ?_
  obtain ⟨⟨x9, x10⟩, h11, H⟩ := obnd H
  try dsimp only at H
  refine lp_Mod_power_5 p0 p1 s jF 1 0 _ h11 ?_
  refine j_pick (lv' := [(3, .int x9)]) [3] rfl ?_
  refine j_iload_n (pc := 26) 0 (jd k_Mod_power 16 rfl) rfl ?_
  cases H
  subst hP9
  exact j_iret (pc := 27) (jd k_Mod_power 17 rfl) rfl rfl ⟨rfl, rfl⟩

set_option maxRecDepth 20000 in
theorem lp_Mod_f_5 {ad : Nat → Nat} {G : jG} {P : jR → va_W → Prop} (p0 : Int32) (p1 : Int32) (s : jS) : ∀ (n : Nat) (x1 : Int32) (x2 : Int32) (r : Int32 × Int32), L_Mod_f_5 p0 p1 s n x1 x2 = some r → J G m_Mod_f 1 0 0 P 51 [(0, .ref (ad 0)), (1, .int p0), (2, .int p1), (3, .int r.1), (4, .int r.2)] [] (mkR ad G s) 0 0 → J G m_Mod_f 1 0 0 P 5 [(0, .ref (ad 0)), (1, .int p0), (2, .int p1), (3, .int x1), (4, .int x2)] [] (mkR ad G s) 0 0 := by
  intro n
  induction n with
  | zero =>
    intro x1 x2 r H
    cases (show none = some r from H)
  | succ n ih =>
    intro x1 x2 r H kx
    have H : (
    if (s 12 0) ≤ x2 then
      some (x1, x2)
    else
      if jin (((7 * p0) - 7) + x2) 49 then
      Option.bind (f_Mod_power p1 x2 s) fun x5 =>
      if ¬ (s 10 0) = 0 then
      jlet (jrem (x1 + ((s 19 (((7 * p0) - 7) + x2).toNatClampNeg) * x5)) (s 10 0)) fun x8 =>
      jlet (x2 + 1) fun x9 =>
      L_Mod_f_5 p0 p1 s n x8 x9
      else none
      else none) = some r := H
    refine j_iload (pc := 5) 4 (jd k_Mod_f 4 rfl) rfl ?_
    refine j_aload_n (pc := 7) 0 (jd k_Mod_f 5 rfl) rfl ?_
    refine j_get (pc := 8) (fs := flR ad s) (v := .int (s 12 0)) fl_Mod_216_10 0 (jd k_Mod_f 6 rfl) rfl rfl ?_
    refine j_icmp_ge (pc := 11) (tgt := 51) (jd k_Mod_f 7 rfl) rfl (fun h3 => ?_) (fun h3 => ?_)
    · rw [if_pos h3] at H
      cases H
      exact kx
    · rw [if_neg h3] at H
      refine j_iload_n (pc := 14) 3 (jd k_Mod_f 8 rfl) rfl ?_
      refine j_aload_n (pc := 15) 0 (jd k_Mod_f 9 rfl) rfl ?_
      refine j_get (pc := 16) (fs := flR ad s) (v := .ref (ad 7)) fl_Mod_28_10 0 (jd k_Mod_f 10 rfl) rfl rfl ?_
      refine j_bipush (pc := 19) (v := 7) (jd k_Mod_f 11 rfl) (by decide) ?_
      refine j_iload_n (pc := 21) 1 (jd k_Mod_f 12 rfl) rfl ?_
      refine j_imul (pc := 22) (jd k_Mod_f 13 rfl) ?_
      refine j_bipush (pc := 23) (v := 7) (jd k_Mod_f 14 rfl) (by decide) ?_
      refine j_isub (pc := 25) (jd k_Mod_f 15 rfl) ?_
      refine j_iload (pc := 26) 4 (jd k_Mod_f 16 rfl) rfl ?_
      refine j_iadd (pc := 28) (jd k_Mod_f 17 rfl) ?_
      obtain ⟨h4, H⟩ := ochk H
      refine j_iald (pc := 29) (f := s 19) 7 (jd k_Mod_f 18 rfl) rfl (jin.vp h4) ?_
      refine j_aload_n (pc := 30) 0 (jd k_Mod_f 19 rfl) rfl ?_
      refine j_iload_n (pc := 31) 2 (jd k_Mod_f 20 rfl) rfl ?_
      refine j_iload (pc := 32) 4 (jd k_Mod_f 21 rfl) rfl ?_
      obtain ⟨x5, h6, H⟩ := obnd H
      refine jc_V (pc := 34) (st := [.int (s 19 (((7 * p0) - 7) + x2).toNatClampNeg), .int x1]) (c_Mod_power ad G p1 x2 s _ h6) L0_Mod_power w1372 w1374 w45 0 rfl rfl (jd k_Mod_f 22 rfl) rfl (Nat.le_of_ble_eq_true rfl) (by decide) (Nat.le_refl _) (Nat.le_refl _) rfl rfl ?_
      refine j_imul (pc := 37) (jd k_Mod_f 23 rfl) ?_
      refine j_iadd (pc := 38) (jd k_Mod_f 24 rfl) ?_
      refine j_aload_n (pc := 39) 0 (jd k_Mod_f 25 rfl) rfl ?_
      refine j_get (pc := 40) (fs := flR ad s) (v := .int (s 10 0)) fl_Mod_213_10 0 (jd k_Mod_f 26 rfl) rfl rfl ?_
      obtain ⟨h7, H⟩ := ochk H
      refine j_irem (pc := 43) (jd k_Mod_f 27 rfl) h7 ?_
      obtain ⟨x8, e11, H⟩ := olet H
      refine j_topi e11 ?_
      refine j_istore_n (pc := 44) (lv' := [(0, .ref (ad 0)), (1, .int p0), (2, .int p1), (3, .int x8), (4, .int x2)]) (jd k_Mod_f 28 rfl) rfl (Nat.le_of_ble_eq_true rfl) rfl ?_
      obtain ⟨x9, e10, H⟩ := olet H
      refine j_iinc (pc := 45) (lv' := [(0, .ref (ad 0)), (1, .int p0), (2, .int p1), (3, .int x8), (4, .int x9)]) 4 (jd k_Mod_f 29 rfl) rfl e10 rfl (Nat.le_of_ble_eq_true rfl) rfl ?_
      refine j_goto (pc := 48) (tgt := 5) (jd k_Mod_f 30 rfl) rfl ?_
      exact ih x8 x9 _ H kx

set_option maxRecDepth 20000 in
theorem c_Mod_f (ad : Nat → Nat) (G : jG) (p0 : Int32) (p1 : Int32) (s : jS) (r : Int32) (H : f_Mod_f p0 p1 s = some r) : jCon G m_Mod_f y_Mod_f 1 0 0 [.ref (ad 0), .int p0, .int p1] (mkR ad G s) (jEq (some (.int r)) (mkR ad G s)) := by
  refine jCon.of (by decide +kernel) rfl rfl rfl (Nat.le_of_ble_eq_true rfl) rfl ?_
  have H : (
  Option.bind (L_Mod_f_5 p0 p1 s jF 0 0) fun (x12, x13) =>
  some x12) = some r := H
  generalize hP9 : jEq (some (.int r)) (mkR ad G s) = P
  refine j_iconst (pc := 0) (v := 0) (jd k_Mod_f 0 rfl) (by decide) ?_
  refine j_istore_n (pc := 1) (lv' := [(0, .ref (ad 0)), (1, .int p0), (2, .int p1), (3, .int 0)]) (jd k_Mod_f 1 rfl) rfl (Nat.le_of_ble_eq_true rfl) rfl ?_
  refine j_iconst (pc := 2) (v := 0) (jd k_Mod_f 2 rfl) (by decide) ?_
  refine j_istore (pc := 3) (lv' := [(0, .ref (ad 0)), (1, .int p0), (2, .int p1), (3, .int 0), (4, .int 0)]) (jd k_Mod_f 3 rfl) rfl (Nat.le_of_ble_eq_true rfl) rfl ?_
  obtain ⟨⟨x12, x13⟩, h14, H⟩ := obnd H
  try dsimp only at H
  refine lp_Mod_f_5 p0 p1 s jF 0 0 _ h14 ?_
  refine j_pick (lv' := [(3, .int x12)]) [3] rfl ?_
  refine j_iload_n (pc := 51) 0 (jd k_Mod_f 31 rfl) rfl ?_
  cases H
  subst hP9
  exact j_iret (pc := 52) (jd k_Mod_f 32 rfl) rfl rfl ⟨rfl, rfl⟩

set_option maxRecDepth 20000 in
theorem lp_Mod_blind_5 {ad : Nat → Nat} {G : jG} {P : jR → va_W → Prop} (p0 : Int32) (p1 : Int32) (s : jS) : ∀ (n : Nat) (x1 : Int32) (x2 : Int32) (r : Int32 × Int32), L_Mod_blind_5 p0 p1 s n x1 x2 = some r → J G m_Mod_blind 1 0 0 P 51 [(0, .ref (ad 0)), (1, .int p0), (2, .int p1), (3, .int r.1), (4, .int r.2)] [] (mkR ad G s) 0 0 → J G m_Mod_blind 1 0 0 P 5 [(0, .ref (ad 0)), (1, .int p0), (2, .int p1), (3, .int x1), (4, .int x2)] [] (mkR ad G s) 0 0 := by
  intro n
  induction n with
  | zero =>
    intro x1 x2 r H
    cases (show none = some r from H)
  | succ n ih =>
    intro x1 x2 r H kx
    have H : (
    if (s 12 0) ≤ x2 then
      some (x1, x2)
    else
      if jin (((7 * p0) - 7) + x2) 49 then
      Option.bind (f_Mod_power p1 x2 s) fun x5 =>
      if ¬ (s 10 0) = 0 then
      jlet (jrem (x1 + ((s 20 (((7 * p0) - 7) + x2).toNatClampNeg) * x5)) (s 10 0)) fun x8 =>
      jlet (x2 + 1) fun x9 =>
      L_Mod_blind_5 p0 p1 s n x8 x9
      else none
      else none) = some r := H
    refine j_iload (pc := 5) 4 (jd k_Mod_blind 4 rfl) rfl ?_
    refine j_aload_n (pc := 7) 0 (jd k_Mod_blind 5 rfl) rfl ?_
    refine j_get (pc := 8) (fs := flR ad s) (v := .int (s 12 0)) fl_Mod_216_10 0 (jd k_Mod_blind 6 rfl) rfl rfl ?_
    refine j_icmp_ge (pc := 11) (tgt := 51) (jd k_Mod_blind 7 rfl) rfl (fun h3 => ?_) (fun h3 => ?_)
    · rw [if_pos h3] at H
      cases H
      exact kx
    · rw [if_neg h3] at H
      refine j_iload_n (pc := 14) 3 (jd k_Mod_blind 8 rfl) rfl ?_
      refine j_aload_n (pc := 15) 0 (jd k_Mod_blind 9 rfl) rfl ?_
      refine j_get (pc := 16) (fs := flR ad s) (v := .ref (ad 8)) fl_Mod_31_10 0 (jd k_Mod_blind 10 rfl) rfl rfl ?_
      refine j_bipush (pc := 19) (v := 7) (jd k_Mod_blind 11 rfl) (by decide) ?_
      refine j_iload_n (pc := 21) 1 (jd k_Mod_blind 12 rfl) rfl ?_
      refine j_imul (pc := 22) (jd k_Mod_blind 13 rfl) ?_
      refine j_bipush (pc := 23) (v := 7) (jd k_Mod_blind 14 rfl) (by decide) ?_
      refine j_isub (pc := 25) (jd k_Mod_blind 15 rfl) ?_
      refine j_iload (pc := 26) 4 (jd k_Mod_blind 16 rfl) rfl ?_
      refine j_iadd (pc := 28) (jd k_Mod_blind 17 rfl) ?_
      obtain ⟨h4, H⟩ := ochk H
      refine j_iald (pc := 29) (f := s 20) 8 (jd k_Mod_blind 18 rfl) rfl (jin.vp h4) ?_
      refine j_aload_n (pc := 30) 0 (jd k_Mod_blind 19 rfl) rfl ?_
      refine j_iload_n (pc := 31) 2 (jd k_Mod_blind 20 rfl) rfl ?_
      refine j_iload (pc := 32) 4 (jd k_Mod_blind 21 rfl) rfl ?_
      obtain ⟨x5, h6, H⟩ := obnd H
      refine jc_V (pc := 34) (st := [.int (s 20 (((7 * p0) - 7) + x2).toNatClampNeg), .int x1]) (c_Mod_power ad G p1 x2 s _ h6) L0_Mod_power w1372 w1374 w45 0 rfl rfl (jd k_Mod_blind 22 rfl) rfl (Nat.le_of_ble_eq_true rfl) (by decide) (Nat.le_refl _) (Nat.le_refl _) rfl rfl ?_
      refine j_imul (pc := 37) (jd k_Mod_blind 23 rfl) ?_
      refine j_iadd (pc := 38) (jd k_Mod_blind 24 rfl) ?_
      refine j_aload_n (pc := 39) 0 (jd k_Mod_blind 25 rfl) rfl ?_
      refine j_get (pc := 40) (fs := flR ad s) (v := .int (s 10 0)) fl_Mod_213_10 0 (jd k_Mod_blind 26 rfl) rfl rfl ?_
      obtain ⟨h7, H⟩ := ochk H
      refine j_irem (pc := 43) (jd k_Mod_blind 27 rfl) h7 ?_
      obtain ⟨x8, e11, H⟩ := olet H
      refine j_topi e11 ?_
      refine j_istore_n (pc := 44) (lv' := [(0, .ref (ad 0)), (1, .int p0), (2, .int p1), (3, .int x8), (4, .int x2)]) (jd k_Mod_blind 28 rfl) rfl (Nat.le_of_ble_eq_true rfl) rfl ?_
      obtain ⟨x9, e10, H⟩ := olet H
      refine j_iinc (pc := 45) (lv' := [(0, .ref (ad 0)), (1, .int p0), (2, .int p1), (3, .int x8), (4, .int x9)]) 4 (jd k_Mod_blind 29 rfl) rfl e10 rfl (Nat.le_of_ble_eq_true rfl) rfl ?_
      refine j_goto (pc := 48) (tgt := 5) (jd k_Mod_blind 30 rfl) rfl ?_
      exact ih x8 x9 _ H kx

set_option maxRecDepth 20000 in
theorem c_Mod_blind (ad : Nat → Nat) (G : jG) (p0 : Int32) (p1 : Int32) (s : jS) (r : Int32) (H : f_Mod_blind p0 p1 s = some r) : jCon G m_Mod_blind y_Mod_blind 1 0 0 [.ref (ad 0), .int p0, .int p1] (mkR ad G s) (jEq (some (.int r)) (mkR ad G s)) := by
  refine jCon.of (by decide +kernel) rfl rfl rfl (Nat.le_of_ble_eq_true rfl) rfl ?_
  have H : (
  Option.bind (L_Mod_blind_5 p0 p1 s jF 0 0) fun (x12, x13) =>
  some x12) = some r := H
  generalize hP9 : jEq (some (.int r)) (mkR ad G s) = P
  refine j_iconst (pc := 0) (v := 0) (jd k_Mod_blind 0 rfl) (by decide) ?_
  refine j_istore_n (pc := 1) (lv' := [(0, .ref (ad 0)), (1, .int p0), (2, .int p1), (3, .int 0)]) (jd k_Mod_blind 1 rfl) rfl (Nat.le_of_ble_eq_true rfl) rfl ?_
  refine j_iconst (pc := 2) (v := 0) (jd k_Mod_blind 2 rfl) (by decide) ?_
  refine j_istore (pc := 3) (lv' := [(0, .ref (ad 0)), (1, .int p0), (2, .int p1), (3, .int 0), (4, .int 0)]) (jd k_Mod_blind 3 rfl) rfl (Nat.le_of_ble_eq_true rfl) rfl ?_
  obtain ⟨⟨x12, x13⟩, h14, H⟩ := obnd H
  try dsimp only at H
  refine lp_Mod_blind_5 p0 p1 s jF 0 0 _ h14 ?_
  refine j_pick (lv' := [(3, .int x12)]) [3] rfl ?_
  refine j_iload_n (pc := 51) 0 (jd k_Mod_blind 31 rfl) rfl ?_
  cases H
  subst hP9
  exact j_iret (pc := 52) (jd k_Mod_blind 32 rfl) rfl rfl ⟨rfl, rfl⟩

set_option maxRecDepth 20000 in
theorem lp_Mod_deal_131 {ad : Nat → Nat} {G : jG} {P : jR → va_W → Prop} (x1 : Int32) : ∀ (n : Nat) (x38 : Int32) (s39 : jS) (r : Int32 × jS), L_Mod_deal_131 x1 n x38 s39 = some r → J G m_Mod_deal 2 0 0 P 205 [(0, .ref (ad 0)), (1, .int x1), (2, .int r.1)] [] (mkR ad G r.2) 0 0 → J G m_Mod_deal 2 0 0 P 131 [(0, .ref (ad 0)), (1, .int x1), (2, .int x38)] [] (mkR ad G s39) 0 0 := by
  intro n
  induction n with
  | zero =>
    intro x38 s39 r H
    cases (show none = some r from H)
  | succ n ih =>
    intro x38 s39 r H kx
    have H : (
    if (s39 11 0) < x38 then
      some (x38, s39)
    else
      Option.bind (f_Mod_at x1 x38 s39) fun x41 =>
      Option.bind (f_Mod_f x1 x38 s39) fun x43 =>
      if jin ((7 + x1) - 1) 49 then
      Option.bind (α := Int32) (
        if ¬ (s39 21 ((7 + x1) - 1).toNatClampNeg) = x38 then
          some 0
        else
          some 1) fun x47 =>
      if ¬ (s39 10 0) = 0 then
      if jin x41 49 then
      jlet (va_up s39 30 (upd (s39 30) x41.toNatClampNeg (jrem (x43 + x47) (s39 10 0)))) fun s51 =>
      Option.bind (f_Mod_at x1 x38 s51) fun x54 =>
      Option.bind (f_Mod_blind x1 x38 s51) fun x56 =>
      if jin x54 49 then
      jlet (va_up s51 31 (upd (s51 31) x54.toNatClampNeg x56)) fun s58 =>
      jlet (x38 + 1) fun x61 =>
      L_Mod_deal_131 x1 n x61 s58
      else none
      else none
      else none
      else none) = some r := H
    refine j_iload_n (pc := 131) 2 (jd k_Mod_deal 81 rfl) rfl ?_
    refine j_aload_n (pc := 132) 0 (jd k_Mod_deal 82 rfl) rfl ?_
    refine j_get (pc := 133) (fs := flR ad s39) (v := .int (s39 11 0)) fl_Mod_207_10 0 (jd k_Mod_deal 83 rfl) rfl rfl ?_
    refine j_icmp_gt (pc := 136) (tgt := 205) (jd k_Mod_deal 84 rfl) rfl (fun h40 => ?_) (fun h40 => ?_)
    · rw [if_pos h40] at H
      cases H
      exact kx
    · rw [if_neg h40] at H
      refine j_aload_n (pc := 139) 0 (jd k_Mod_deal 85 rfl) rfl ?_
      refine j_get (pc := 140) (fs := flR ad s39) (v := .ref (ad 13)) fl_Mod_46_10 0 (jd k_Mod_deal 86 rfl) rfl rfl ?_
      refine j_aload_n (pc := 143) 0 (jd k_Mod_deal 87 rfl) rfl ?_
      refine j_iload_n (pc := 144) 1 (jd k_Mod_deal 88 rfl) rfl ?_
      refine j_iload_n (pc := 145) 2 (jd k_Mod_deal 89 rfl) rfl ?_
      obtain ⟨x41, h42, H⟩ := obnd H
      refine jc_V (pc := 146) (st := [.ref (ad 13)]) (c_Mod_at ad G x1 x38 s39 _ h42) L0_Mod_at w1364 w1366 w43 0 rfl rfl (jd k_Mod_deal 90 rfl) rfl (Nat.le_of_ble_eq_true rfl) (by decide) (Nat.le_refl _) (Nat.le_refl _) rfl rfl ?_
      refine j_aload_n (pc := 149) 0 (jd k_Mod_deal 91 rfl) rfl ?_
      refine j_iload_n (pc := 150) 1 (jd k_Mod_deal 92 rfl) rfl ?_
      refine j_iload_n (pc := 151) 2 (jd k_Mod_deal 93 rfl) rfl ?_
      obtain ⟨x43, h44, H⟩ := obnd H
      refine jc_V (pc := 152) (st := [.int x41, .ref (ad 13)]) (c_Mod_f ad G x1 x38 s39 _ h44) L0_Mod_f w1368 w1370 w44 0 rfl rfl (jd k_Mod_deal 94 rfl) rfl (Nat.le_of_ble_eq_true rfl) (by decide) (Nat.le_refl _) (Nat.le_refl _) rfl rfl ?_
      refine j_aload_n (pc := 155) 0 (jd k_Mod_deal 95 rfl) rfl ?_
      refine j_get (pc := 156) (fs := flR ad s39) (v := .ref (ad 9)) fl_Mod_34_10 0 (jd k_Mod_deal 96 rfl) rfl rfl ?_
      refine j_bipush (pc := 159) (v := 7) (jd k_Mod_deal 97 rfl) (by decide) ?_
      refine j_iload_n (pc := 161) 1 (jd k_Mod_deal 98 rfl) rfl ?_
      refine j_iadd (pc := 162) (jd k_Mod_deal 99 rfl) ?_
      refine j_iconst (pc := 163) (v := 1) (jd k_Mod_deal 100 rfl) (by decide) ?_
      refine j_isub (pc := 164) (jd k_Mod_deal 101 rfl) ?_
      obtain ⟨h45, H⟩ := ochk H
      refine j_iald (pc := 165) (f := s39 21) 9 (jd k_Mod_deal 102 rfl) rfl (jin.vp h45) ?_
      refine j_iload_n (pc := 166) 2 (jd k_Mod_deal 103 rfl) rfl ?_
      obtain ⟨x47, h48, H⟩ := obnd H
      have K49 : J G m_Mod_deal 2 0 0 P 175 [(0, .ref (ad 0)), (1, .int x1), (2, .int x38)] [.int x47, .int x43, .int x41, .ref (ad 13)] (mkR ad G s39) 0 0 := by
        refine j_iadd (pc := 175) (jd k_Mod_deal 108 rfl) ?_
        refine j_aload_n (pc := 176) 0 (jd k_Mod_deal 109 rfl) rfl ?_
        refine j_get (pc := 177) (fs := flR ad s39) (v := .int (s39 10 0)) fl_Mod_213_10 0 (jd k_Mod_deal 110 rfl) rfl rfl ?_
        obtain ⟨h50, H⟩ := ochk H
        refine j_irem (pc := 180) (jd k_Mod_deal 111 rfl) h50 ?_
        obtain ⟨h53, H⟩ := ochk H
        obtain ⟨s51, e52, H⟩ := olet H
        refine j_iast (pc := 181) (f := s39 30) 13 (jd k_Mod_deal 112 rfl) rfl (jin.vp h53) ((waR_30 ad G s39 _).trans (congrArg (mkR ad G) e52)) ?_
        refine j_aload_n (pc := 182) 0 (jd k_Mod_deal 113 rfl) rfl ?_
        refine j_get (pc := 183) (fs := flR ad s51) (v := .ref (ad 14)) fl_Mod_49_10 0 (jd k_Mod_deal 114 rfl) rfl rfl ?_
        refine j_aload_n (pc := 186) 0 (jd k_Mod_deal 115 rfl) rfl ?_
        refine j_iload_n (pc := 187) 1 (jd k_Mod_deal 116 rfl) rfl ?_
        refine j_iload_n (pc := 188) 2 (jd k_Mod_deal 117 rfl) rfl ?_
        obtain ⟨x54, h55, H⟩ := obnd H
        refine jc_V (pc := 189) (st := [.ref (ad 14)]) (c_Mod_at ad G x1 x38 s51 _ h55) L0_Mod_at w1364 w1366 w43 0 rfl rfl (jd k_Mod_deal 118 rfl) rfl (Nat.le_of_ble_eq_true rfl) (by decide) (Nat.le_refl _) (Nat.le_refl _) rfl rfl ?_
        refine j_aload_n (pc := 192) 0 (jd k_Mod_deal 119 rfl) rfl ?_
        refine j_iload_n (pc := 193) 1 (jd k_Mod_deal 120 rfl) rfl ?_
        refine j_iload_n (pc := 194) 2 (jd k_Mod_deal 121 rfl) rfl ?_
        obtain ⟨x56, h57, H⟩ := obnd H
        refine jc_V (pc := 195) (st := [.int x54, .ref (ad 14)]) (c_Mod_blind ad G x1 x38 s51 _ h57) L0_Mod_blind w1376 w1378 w46 0 rfl rfl (jd k_Mod_deal 122 rfl) rfl (Nat.le_of_ble_eq_true rfl) (by decide) (Nat.le_refl _) (Nat.le_refl _) rfl rfl ?_
        obtain ⟨h60, H⟩ := ochk H
        obtain ⟨s58, e59, H⟩ := olet H
        refine j_iast (pc := 198) (f := s51 31) 14 (jd k_Mod_deal 123 rfl) rfl (jin.vp h60) ((waR_31 ad G s51 _).trans (congrArg (mkR ad G) e59)) ?_
        obtain ⟨x61, e62, H⟩ := olet H
        refine j_iinc (pc := 199) (lv' := [(0, .ref (ad 0)), (1, .int x1), (2, .int x61)]) 2 (jd k_Mod_deal 124 rfl) rfl e62 rfl (Nat.le_of_ble_eq_true rfl) rfl ?_
        refine j_goto (pc := 202) (tgt := 131) (jd k_Mod_deal 125 rfl) rfl ?_
        exact ih x61 s58 _ H kx
      have H := h48
      refine j_icmp_ne (pc := 167) (tgt := 174) (jd k_Mod_deal 104 rfl) rfl (fun h46 => ?_) (fun h46 => ?_)
      · rw [if_pos h46] at H
        refine j_iconst (pc := 174) (v := 0) (jd k_Mod_deal 107 rfl) (by decide) ?_
        cases H
        exact K49
      · rw [if_neg (not_not_intro h46)] at H
        refine j_iconst (pc := 170) (v := 1) (jd k_Mod_deal 105 rfl) (by decide) ?_
        refine j_goto (pc := 171) (tgt := 175) (jd k_Mod_deal 106 rfl) rfl ?_
        cases H
        exact K49

set_option maxRecDepth 20000 in
theorem lp_Mod_deal_57 {ad : Nat → Nat} {G : jG} {P : jR → va_W → Prop} (x1 : Int32) : ∀ (n : Nat) (x16 : Int32) (s17 : jS) (r : Int32 × jS), L_Mod_deal_57 x1 n x16 s17 = some r → J G m_Mod_deal 2 0 0 P 129 [(0, .ref (ad 0)), (1, .int x1), (2, .int r.1)] [] (mkR ad G r.2) 0 0 → J G m_Mod_deal 2 0 0 P 57 [(0, .ref (ad 0)), (1, .int x1), (2, .int x16)] [] (mkR ad G s17) 0 0 := by
  intro n
  induction n with
  | zero =>
    intro x16 s17 r H
    cases (show none = some r from H)
  | succ n ih =>
    intro x16 s17 r H kx
    have H : (
    if (s17 12 0) ≤ x16 then
      some (x16, s17)
    else
      jlet (((7 * x1) - 7) + x16) fun x19 =>
      if jin x19 49 then
      if jin (s17 9 0) 2 then
      if jin x19 49 then
      if ¬ (s17 10 0) = 0 then
      if jin x19 49 then
      jlet (va_up s17 34 (upd (s17 34) x19.toNatClampNeg (jrem ((s17 19 x19.toNatClampNeg) + ((s17 8 (s17 9 0).toNatClampNeg) * (s17 20 x19.toNatClampNeg))) (s17 10 0)))) fun s24 =>
      if jin x19 49 then
      Option.bind (f_Mod_element (s24 34 x19.toNatClampNeg) s24) fun x28 =>
      Option.bind (f_Mod_showTwo x28 s24) fun s30 =>
      jlet (x16 + 1) fun x32 =>
      L_Mod_deal_57 x1 n x32 s30
      else none
      else none
      else none
      else none
      else none
      else none) = some r := H
    refine j_iload_n (pc := 57) 2 (jd k_Mod_deal 35 rfl) rfl ?_
    refine j_aload_n (pc := 58) 0 (jd k_Mod_deal 36 rfl) rfl ?_
    refine j_get (pc := 59) (fs := flR ad s17) (v := .int (s17 12 0)) fl_Mod_216_10 0 (jd k_Mod_deal 37 rfl) rfl rfl ?_
    refine j_icmp_ge (pc := 62) (tgt := 129) (jd k_Mod_deal 38 rfl) rfl (fun h18 => ?_) (fun h18 => ?_)
    · rw [if_pos h18] at H
      cases H
      exact kx
    · rw [if_neg h18] at H
      refine j_bipush (pc := 65) (v := 7) (jd k_Mod_deal 39 rfl) (by decide) ?_
      refine j_iload_n (pc := 67) 1 (jd k_Mod_deal 40 rfl) rfl ?_
      refine j_imul (pc := 68) (jd k_Mod_deal 41 rfl) ?_
      refine j_bipush (pc := 69) (v := 7) (jd k_Mod_deal 42 rfl) (by decide) ?_
      refine j_isub (pc := 71) (jd k_Mod_deal 43 rfl) ?_
      refine j_iload_n (pc := 72) 2 (jd k_Mod_deal 44 rfl) rfl ?_
      refine j_iadd (pc := 73) (jd k_Mod_deal 45 rfl) ?_
      obtain ⟨x19, e34, H⟩ := olet H
      refine j_topi e34 ?_
      refine j_istore_n (pc := 74) (lv' := [(0, .ref (ad 0)), (1, .int x1), (2, .int x16), (3, .int x19)]) (jd k_Mod_deal 46 rfl) rfl (Nat.le_of_ble_eq_true rfl) rfl ?_
      refine j_aload_n (pc := 75) 0 (jd k_Mod_deal 47 rfl) rfl ?_
      refine j_get (pc := 76) (fs := flR ad s17) (v := .ref (ad 17)) fl_Mod_58_10 0 (jd k_Mod_deal 48 rfl) rfl rfl ?_
      refine j_iload_n (pc := 79) 3 (jd k_Mod_deal 49 rfl) rfl ?_
      refine j_aload_n (pc := 80) 0 (jd k_Mod_deal 50 rfl) rfl ?_
      refine j_get (pc := 81) (fs := flR ad s17) (v := .ref (ad 7)) fl_Mod_28_10 0 (jd k_Mod_deal 51 rfl) rfl rfl ?_
      refine j_iload_n (pc := 84) 3 (jd k_Mod_deal 52 rfl) rfl ?_
      obtain ⟨h20, H⟩ := ochk H
      refine j_iald (pc := 85) (f := s17 19) 7 (jd k_Mod_deal 53 rfl) rfl (jin.vp h20) ?_
      refine j_aload_n (pc := 86) 0 (jd k_Mod_deal 54 rfl) rfl ?_
      refine j_get (pc := 87) (fs := flR ad s17) (v := .ref (ad 6)) fl_Mod_25_10 0 (jd k_Mod_deal 55 rfl) rfl rfl ?_
      refine j_aload_n (pc := 90) 0 (jd k_Mod_deal 56 rfl) rfl ?_
      refine j_get (pc := 91) (fs := flR ad s17) (v := .int (s17 9 0)) fl_Mod_210_10 0 (jd k_Mod_deal 57 rfl) rfl rfl ?_
      obtain ⟨h21, H⟩ := ochk H
      refine j_iald (pc := 94) (f := s17 8) 6 (jd k_Mod_deal 58 rfl) rfl (jin.vp h21) ?_
      refine j_aload_n (pc := 95) 0 (jd k_Mod_deal 59 rfl) rfl ?_
      refine j_get (pc := 96) (fs := flR ad s17) (v := .ref (ad 8)) fl_Mod_31_10 0 (jd k_Mod_deal 60 rfl) rfl rfl ?_
      refine j_iload_n (pc := 99) 3 (jd k_Mod_deal 61 rfl) rfl ?_
      obtain ⟨h22, H⟩ := ochk H
      refine j_iald (pc := 100) (f := s17 20) 8 (jd k_Mod_deal 62 rfl) rfl (jin.vp h22) ?_
      refine j_imul (pc := 101) (jd k_Mod_deal 63 rfl) ?_
      refine j_iadd (pc := 102) (jd k_Mod_deal 64 rfl) ?_
      refine j_aload_n (pc := 103) 0 (jd k_Mod_deal 65 rfl) rfl ?_
      refine j_get (pc := 104) (fs := flR ad s17) (v := .int (s17 10 0)) fl_Mod_213_10 0 (jd k_Mod_deal 66 rfl) rfl rfl ?_
      obtain ⟨h23, H⟩ := ochk H
      refine j_irem (pc := 107) (jd k_Mod_deal 67 rfl) h23 ?_
      obtain ⟨h26, H⟩ := ochk H
      obtain ⟨s24, e25, H⟩ := olet H
      refine j_iast (pc := 108) (f := s17 34) 17 (jd k_Mod_deal 68 rfl) rfl (jin.vp h26) ((waR_34 ad G s17 _).trans (congrArg (mkR ad G) e25)) ?_
      refine j_aload_n (pc := 109) 0 (jd k_Mod_deal 69 rfl) rfl ?_
      refine j_aload_n (pc := 110) 0 (jd k_Mod_deal 70 rfl) rfl ?_
      refine j_aload_n (pc := 111) 0 (jd k_Mod_deal 71 rfl) rfl ?_
      refine j_get (pc := 112) (fs := flR ad s24) (v := .ref (ad 17)) fl_Mod_58_10 0 (jd k_Mod_deal 72 rfl) rfl rfl ?_
      refine j_iload_n (pc := 115) 3 (jd k_Mod_deal 73 rfl) rfl ?_
      obtain ⟨h27, H⟩ := ochk H
      refine j_iald (pc := 116) (f := s24 34) 17 (jd k_Mod_deal 74 rfl) rfl (jin.vp h27) ?_
      obtain ⟨x28, h29, H⟩ := obnd H
      refine jc_V (pc := 117) (st := [.ref (ad 0)]) (c_Mod_element ad G (s24 34 x19.toNatClampNeg) s24 _ h29) L0_Mod_element w1356 w1358 w41 0 rfl rfl (jd k_Mod_deal 75 rfl) rfl (Nat.le_of_ble_eq_true rfl) (by decide) (Nat.le_refl _) (Nat.le_refl _) rfl rfl ?_
      obtain ⟨s30, h31, H⟩ := obnd H
      refine jc_V (pc := 120) (st := []) (c_Mod_showTwo ad G x28 s24 _ h31) L0_Mod_showTwo w1360 w1362 w42 0 rfl rfl (jd k_Mod_deal 76 rfl) rfl (Nat.le_of_ble_eq_true rfl) (by decide) (Nat.le_refl _) (Nat.le_refl _) rfl rfl ?_
      obtain ⟨x32, e33, H⟩ := olet H
      refine j_iinc (pc := 123) (lv' := [(0, .ref (ad 0)), (1, .int x1), (2, .int x32), (3, .int x19)]) 2 (jd k_Mod_deal 77 rfl) rfl e33 rfl (Nat.le_of_ble_eq_true rfl) rfl ?_
      refine j_goto (pc := 126) (tgt := 57) (jd k_Mod_deal 78 rfl) rfl ?_
      refine j_pick (lv' := [(0, .ref (ad 0)), (1, .int x1), (2, .int x32)]) [0, 1, 2] rfl ?_
      exact ih x32 s30 _ H kx

set_option maxRecDepth 20000 in
theorem lp_Mod_deal_2 {ad : Nat → Nat} {G : jG} {P : jR → va_W → Prop} : ∀ (n : Nat) (x1 : Int32) (s2 : jS) (r : Int32 × jS), L_Mod_deal_2 n x1 s2 = some r → J G m_Mod_deal 2 0 0 P 211 [(0, .ref (ad 0)), (1, .int r.1)] [] (mkR ad G r.2) 0 0 → J G m_Mod_deal 2 0 0 P 2 [(0, .ref (ad 0)), (1, .int x1)] [] (mkR ad G s2) 0 0 := by
  intro n
  induction n with
  | zero =>
    intro x1 s2 r H
    cases (show none = some r from H)
  | succ n ih =>
    intro x1 s2 r H kx
    have H : (
    if (s2 11 0) < x1 then
      some (x1, s2)
    else
      Option.bind (f_Mod_works x1 1 s2) fun x4 =>
      Option.bind (α := jS) (
        if x4 = 0 then
          some s2
        else
          Option.bind (f_Mod_is x1 0 s2) fun x7 =>
          if x7 = 0 then
            jlet (va_up s2 23 (fun _ => (s2 23 0) ||| (1 <<< ((x1 - 1) &&& 31)))) fun s10 =>
            Option.bind (f_Mod_show 1 s10) fun s12 =>
            Option.bind (f_Mod_show x1 s12) fun s14 =>
            Option.bind (L_Mod_deal_57 x1 jF 0 s14) fun (x35, s36) =>
            Option.bind (L_Mod_deal_131 x1 jF 1 s36) fun (x63, s64) =>
            some s64
          else
            some s2) fun s66 =>
      jlet (x1 + 1) fun x69 =>
      L_Mod_deal_2 n x69 s66) = some r := H
    refine j_iload_n (pc := 2) 1 (jd k_Mod_deal 2 rfl) rfl ?_
    refine j_aload_n (pc := 3) 0 (jd k_Mod_deal 3 rfl) rfl ?_
    refine j_get (pc := 4) (fs := flR ad s2) (v := .int (s2 11 0)) fl_Mod_207_10 0 (jd k_Mod_deal 4 rfl) rfl rfl ?_
    refine j_icmp_gt (pc := 7) (tgt := 211) (jd k_Mod_deal 5 rfl) rfl (fun h3 => ?_) (fun h3 => ?_)
    · rw [if_pos h3] at H
      cases H
      exact kx
    · rw [if_neg h3] at H
      refine j_aload_n (pc := 10) 0 (jd k_Mod_deal 6 rfl) rfl ?_
      refine j_iload_n (pc := 11) 1 (jd k_Mod_deal 7 rfl) rfl ?_
      refine j_iconst (pc := 12) (v := 1) (jd k_Mod_deal 8 rfl) (by decide) ?_
      obtain ⟨x4, h5, H⟩ := obnd H
      refine jc_V (pc := 13) (st := []) (c_Mod_works ad G x1 1 s2 _ h5) L0_Mod_works w1344 w1346 w38 0 rfl rfl (jd k_Mod_deal 9 rfl) rfl (Nat.le_of_ble_eq_true rfl) (by decide) (Nat.le_refl _) (Nat.le_refl _) rfl rfl ?_
      obtain ⟨s66, h67, H⟩ := obnd H
      have K68 : J G m_Mod_deal 2 0 0 P 205 [(0, .ref (ad 0)), (1, .int x1)] [] (mkR ad G s66) 0 0 := by
        obtain ⟨x69, e70, H⟩ := olet H
        refine j_iinc (pc := 205) (lv' := [(0, .ref (ad 0)), (1, .int x69)]) 1 (jd k_Mod_deal 126 rfl) rfl e70 rfl (Nat.le_of_ble_eq_true rfl) rfl ?_
        refine j_goto (pc := 208) (tgt := 2) (jd k_Mod_deal 127 rfl) rfl ?_
        exact ih x69 s66 _ H kx
      have H := h67
      refine j_if_eq (pc := 16) (tgt := 205) (jd k_Mod_deal 10 rfl) rfl (fun h6 => ?_) (fun h6 => ?_)
      · rw [if_pos h6] at H
        cases H
        exact K68
      · rw [if_neg h6] at H
        refine j_aload_n (pc := 19) 0 (jd k_Mod_deal 11 rfl) rfl ?_
        refine j_iload_n (pc := 20) 1 (jd k_Mod_deal 12 rfl) rfl ?_
        refine j_iconst (pc := 21) (v := 0) (jd k_Mod_deal 13 rfl) (by decide) ?_
        obtain ⟨x7, h8, H⟩ := obnd H
        refine jc_V (pc := 22) (st := []) (c_Mod_is ad G x1 0 s2 _ h8) L0_Mod_is w1348 w1350 w39 0 rfl rfl (jd k_Mod_deal 14 rfl) rfl (Nat.le_of_ble_eq_true rfl) (by decide) (Nat.le_refl _) (Nat.le_refl _) rfl rfl ?_
        refine j_if_eq (pc := 25) (tgt := 31) (jd k_Mod_deal 15 rfl) rfl (fun h9 => ?_) (fun h9 => ?_)
        · rw [if_pos h9] at H
          refine j_aload_n (pc := 31) 0 (jd k_Mod_deal 17 rfl) rfl ?_
          refine j_dup (pc := 32) (jd k_Mod_deal 18 rfl) rfl ?_
          refine j_get (pc := 33) (fs := flR ad s2) (v := .int (s2 23 0)) fl_Mod_237_10 0 (jd k_Mod_deal 19 rfl) rfl rfl ?_
          refine j_iconst (pc := 36) (v := 1) (jd k_Mod_deal 20 rfl) (by decide) ?_
          refine j_iload_n (pc := 37) 1 (jd k_Mod_deal 21 rfl) rfl ?_
          refine j_iconst (pc := 38) (v := 1) (jd k_Mod_deal 22 rfl) (by decide) ?_
          refine j_isub (pc := 39) (jd k_Mod_deal 23 rfl) ?_
          refine j_ishl (pc := 40) (jd k_Mod_deal 24 rfl) ?_
          refine j_ior (pc := 41) (jd k_Mod_deal 25 rfl) ?_
          obtain ⟨s10, e11, H⟩ := olet H
          refine j_put (pc := 42) (fs := flR ad s2) (fp_Mod_237_10 _) 0 (jd k_Mod_deal 26 rfl) rfl rfl rfl (Nat.le_of_ble_eq_true rfl) ((wpR_23 ad G s2 _).trans (congrArg (mkR ad G) e11)) ?_
          refine j_aload_n (pc := 45) 0 (jd k_Mod_deal 27 rfl) rfl ?_
          refine j_iconst (pc := 46) (v := 1) (jd k_Mod_deal 28 rfl) (by decide) ?_
          obtain ⟨s12, h13, H⟩ := obnd H
          refine jc_V (pc := 47) (st := []) (c_Mod_show ad G 1 s10 _ h13) L0_Mod_show w1352 w1354 w40 0 rfl rfl (jd k_Mod_deal 29 rfl) rfl (Nat.le_of_ble_eq_true rfl) (by decide) (Nat.le_refl _) (Nat.le_refl _) rfl rfl ?_
          refine j_aload_n (pc := 50) 0 (jd k_Mod_deal 30 rfl) rfl ?_
          refine j_iload_n (pc := 51) 1 (jd k_Mod_deal 31 rfl) rfl ?_
          obtain ⟨s14, h15, H⟩ := obnd H
          refine jc_V (pc := 52) (st := []) (c_Mod_show ad G x1 s12 _ h15) L0_Mod_show w1352 w1354 w40 0 rfl rfl (jd k_Mod_deal 32 rfl) rfl (Nat.le_of_ble_eq_true rfl) (by decide) (Nat.le_refl _) (Nat.le_refl _) rfl rfl ?_
          refine j_iconst (pc := 55) (v := 0) (jd k_Mod_deal 33 rfl) (by decide) ?_
          refine j_istore_n (pc := 56) (lv' := [(0, .ref (ad 0)), (1, .int x1), (2, .int 0)]) (jd k_Mod_deal 34 rfl) rfl (Nat.le_of_ble_eq_true rfl) rfl ?_
          obtain ⟨⟨x35, s36⟩, h37, H⟩ := obnd H
          try dsimp only at H
          refine lp_Mod_deal_57 x1 jF 0 s14 _ h37 ?_
          refine j_pick (lv' := [(0, .ref (ad 0)), (1, .int x1)]) [0, 1] rfl ?_
          refine j_iconst (pc := 129) (v := 1) (jd k_Mod_deal 79 rfl) (by decide) ?_
          refine j_istore_n (pc := 130) (lv' := [(0, .ref (ad 0)), (1, .int x1), (2, .int 1)]) (jd k_Mod_deal 80 rfl) rfl (Nat.le_of_ble_eq_true rfl) rfl ?_
          obtain ⟨⟨x63, s64⟩, h65, H⟩ := obnd H
          try dsimp only at H
          refine lp_Mod_deal_131 x1 jF 1 s36 _ h65 ?_
          refine j_pick (lv' := [(0, .ref (ad 0)), (1, .int x1)]) [0, 1] rfl ?_
          cases H
          exact K68
        · rw [if_neg h9] at H
          refine j_goto (pc := 28) (tgt := 205) (jd k_Mod_deal 16 rfl) rfl ?_
          cases H
          exact K68

set_option maxRecDepth 20000 in
theorem c_Mod_deal (ad : Nat → Nat) (G : jG) (s : jS) (r : jS) (H : f_Mod_deal s = some r) : jCon G m_Mod_deal y_Mod_deal 2 0 0 [.ref (ad 0)] (mkR ad G s) (jEq none (mkR ad G r)) := by
  refine jCon.of (by decide +kernel) rfl rfl rfl (Nat.le_of_ble_eq_true rfl) rfl ?_
  have H : (
  Option.bind (L_Mod_deal_2 jF 1 s) fun (x71, s72) =>
  some s72) = some r := H
  generalize hP9 : jEq none (mkR ad G r) = P
  refine j_iconst (pc := 0) (v := 1) (jd k_Mod_deal 0 rfl) (by decide) ?_
  refine j_istore_n (pc := 1) (lv' := [(0, .ref (ad 0)), (1, .int 1)]) (jd k_Mod_deal 1 rfl) rfl (Nat.le_of_ble_eq_true rfl) rfl ?_
  obtain ⟨⟨x71, s72⟩, h73, H⟩ := obnd H
  try dsimp only at H
  refine lp_Mod_deal_2  jF 1 s _ h73 ?_
  refine j_pick (lv' := []) [] rfl ?_
  cases H
  subst hP9
  exact j_vret (pc := 211) (jd k_Mod_deal 128 rfl) rfl ⟨rfl, rfl⟩

set_option maxRecDepth 20000 in
theorem c_Mod_in (G : jG) (ws : va_W) (p0 : Int32) (p1 : Int32) (r : Int32) (H : f_Mod_in p0 p1 = some r) : jCon G m_Mod_in y_Mod_in 0 0 0 [.int p0, .int p1] ws (jEq (some (.int r)) ws) := by
  refine jCon.of (by decide +kernel) rfl rfl rfl (Nat.le_of_ble_eq_true rfl) rfl ?_
  have H : (
  Option.bind (α := Int32) (
    if ¬ ((p0 >>> ((p1 - 1) &&& 31)) &&& 1) = 1 then
      some 0
    else
      some 1) fun x2 =>
  if jbo x2 then
  some x2
  else none) = some r := H
  generalize hP9 : jEq (some (.int r)) ws = P
  refine j_iload_n (pc := 0) 0 (jd k_Mod_in 0 rfl) rfl ?_
  refine j_iload_n (pc := 1) 1 (jd k_Mod_in 1 rfl) rfl ?_
  refine j_iconst (pc := 2) (v := 1) (jd k_Mod_in 2 rfl) (by decide) ?_
  refine j_isub (pc := 3) (jd k_Mod_in 3 rfl) ?_
  refine j_ishr (pc := 4) (jd k_Mod_in 4 rfl) ?_
  refine j_iconst (pc := 5) (v := 1) (jd k_Mod_in 5 rfl) (by decide) ?_
  refine j_iand (pc := 6) (jd k_Mod_in 6 rfl) ?_
  refine j_iconst (pc := 7) (v := 1) (jd k_Mod_in 7 rfl) (by decide) ?_
  obtain ⟨x2, h3, H⟩ := obnd H
  have K4 : J G m_Mod_in 0 0 0 P 16 [] [.int x2] ws 0 0 := by
    obtain ⟨h5, H⟩ := ochk H
    cases H
    subst hP9
    exact j_iret (pc := 16) (jd k_Mod_in 12 rfl) rfl (jbo.nar h5) ⟨rfl, rfl⟩
  have H := h3
  refine j_icmp_ne (pc := 8) (tgt := 15) (jd k_Mod_in 8 rfl) rfl (fun h1 => ?_) (fun h1 => ?_)
  · rw [if_pos h1] at H
    refine j_iconst (pc := 15) (v := 0) (jd k_Mod_in 11 rfl) (by decide) ?_
    cases H
    exact j_pick [] rfl K4
  · rw [if_neg (not_not_intro h1)] at H
    refine j_iconst (pc := 11) (v := 1) (jd k_Mod_in 9 rfl) (by decide) ?_
    refine j_goto (pc := 12) (tgt := 16) (jd k_Mod_in 10 rfl) rfl ?_
    cases H
    exact j_pick [] rfl K4

set_option maxRecDepth 20000 in
theorem lp_Mod_fits_6 {ad : Nat → Nat} {G : jG} {P : jR → va_W → Prop} (p0 : Int32) (p1 : Int32) (p2 : Int32) (p3 : Int32) (s : jS) : ∀ (n : Nat) (x1 : Int32) (x2 : Int32) (r : Int32 × Int32), L_Mod_fits_6 p0 p1 s n x1 x2 = some r → J G m_Mod_fits 1 0 0 P 54 [(0, .ref (ad 0)), (1, .int p0), (2, .int p1), (3, .int p2), (4, .int p3), (5, .int r.1), (6, .int r.2)] [] (mkR ad G s) 0 0 → J G m_Mod_fits 1 0 0 P 6 [(0, .ref (ad 0)), (1, .int p0), (2, .int p1), (3, .int p2), (4, .int p3), (5, .int x1), (6, .int x2)] [] (mkR ad G s) 0 0 := by
  intro n
  induction n with
  | zero =>
    intro x1 x2 r H
    cases (show none = some r from H)
  | succ n ih =>
    intro x1 x2 r H kx
    have H : (
    if (s 12 0) ≤ x2 then
      some (x1, x2)
    else
      if jin (((7 * p0) - 7) + x2) 49 then
      Option.bind (f_Mod_power p1 x2 s) fun x5 =>
      if ¬ (s 10 0) = 0 then
      jlet (jrem (x1 + ((s 34 (((7 * p0) - 7) + x2).toNatClampNeg) * x5)) (s 10 0)) fun x8 =>
      jlet (x2 + 1) fun x9 =>
      L_Mod_fits_6 p0 p1 s n x8 x9
      else none
      else none) = some r := H
    refine j_iload (pc := 6) 6 (jd k_Mod_fits 4 rfl) rfl ?_
    refine j_aload_n (pc := 8) 0 (jd k_Mod_fits 5 rfl) rfl ?_
    refine j_get (pc := 9) (fs := flR ad s) (v := .int (s 12 0)) fl_Mod_216_10 0 (jd k_Mod_fits 6 rfl) rfl rfl ?_
    refine j_icmp_ge (pc := 12) (tgt := 54) (jd k_Mod_fits 7 rfl) rfl (fun h3 => ?_) (fun h3 => ?_)
    · rw [if_pos h3] at H
      cases H
      exact kx
    · rw [if_neg h3] at H
      refine j_iload (pc := 15) 5 (jd k_Mod_fits 8 rfl) rfl ?_
      refine j_aload_n (pc := 17) 0 (jd k_Mod_fits 9 rfl) rfl ?_
      refine j_get (pc := 18) (fs := flR ad s) (v := .ref (ad 17)) fl_Mod_58_10 0 (jd k_Mod_fits 10 rfl) rfl rfl ?_
      refine j_bipush (pc := 21) (v := 7) (jd k_Mod_fits 11 rfl) (by decide) ?_
      refine j_iload_n (pc := 23) 1 (jd k_Mod_fits 12 rfl) rfl ?_
      refine j_imul (pc := 24) (jd k_Mod_fits 13 rfl) ?_
      refine j_bipush (pc := 25) (v := 7) (jd k_Mod_fits 14 rfl) (by decide) ?_
      refine j_isub (pc := 27) (jd k_Mod_fits 15 rfl) ?_
      refine j_iload (pc := 28) 6 (jd k_Mod_fits 16 rfl) rfl ?_
      refine j_iadd (pc := 30) (jd k_Mod_fits 17 rfl) ?_
      obtain ⟨h4, H⟩ := ochk H
      refine j_iald (pc := 31) (f := s 34) 17 (jd k_Mod_fits 18 rfl) rfl (jin.vp h4) ?_
      refine j_aload_n (pc := 32) 0 (jd k_Mod_fits 19 rfl) rfl ?_
      refine j_iload_n (pc := 33) 2 (jd k_Mod_fits 20 rfl) rfl ?_
      refine j_iload (pc := 34) 6 (jd k_Mod_fits 21 rfl) rfl ?_
      obtain ⟨x5, h6, H⟩ := obnd H
      refine jc_V (pc := 36) (st := [.int (s 34 (((7 * p0) - 7) + x2).toNatClampNeg), .int x1]) (c_Mod_power ad G p1 x2 s _ h6) L0_Mod_power w1372 w1374 w45 0 rfl rfl (jd k_Mod_fits 22 rfl) rfl (Nat.le_of_ble_eq_true rfl) (by decide) (Nat.le_refl _) (Nat.le_refl _) rfl rfl ?_
      refine j_imul (pc := 39) (jd k_Mod_fits 23 rfl) ?_
      refine j_iadd (pc := 40) (jd k_Mod_fits 24 rfl) ?_
      refine j_aload_n (pc := 41) 0 (jd k_Mod_fits 25 rfl) rfl ?_
      refine j_get (pc := 42) (fs := flR ad s) (v := .int (s 10 0)) fl_Mod_213_10 0 (jd k_Mod_fits 26 rfl) rfl rfl ?_
      obtain ⟨h7, H⟩ := ochk H
      refine j_irem (pc := 45) (jd k_Mod_fits 27 rfl) h7 ?_
      obtain ⟨x8, e11, H⟩ := olet H
      refine j_topi e11 ?_
      refine j_istore (pc := 46) (lv' := [(0, .ref (ad 0)), (1, .int p0), (2, .int p1), (3, .int p2), (4, .int p3), (5, .int x8), (6, .int x2)]) (jd k_Mod_fits 28 rfl) rfl (Nat.le_of_ble_eq_true rfl) rfl ?_
      obtain ⟨x9, e10, H⟩ := olet H
      refine j_iinc (pc := 48) (lv' := [(0, .ref (ad 0)), (1, .int p0), (2, .int p1), (3, .int p2), (4, .int p3), (5, .int x8), (6, .int x9)]) 6 (jd k_Mod_fits 29 rfl) rfl e10 rfl (Nat.le_of_ble_eq_true rfl) rfl ?_
      refine j_goto (pc := 51) (tgt := 6) (jd k_Mod_fits 30 rfl) rfl ?_
      exact ih x8 x9 _ H kx

set_option maxRecDepth 20000 in
theorem c_Mod_fits (ad : Nat → Nat) (G : jG) (p0 : Int32) (p1 : Int32) (p2 : Int32) (p3 : Int32) (s : jS) (r : Int32) (H : f_Mod_fits p0 p1 p2 p3 s = some r) : jCon G m_Mod_fits y_Mod_fits 1 0 0 [.ref (ad 0), .int p0, .int p1, .int p2, .int p3] (mkR ad G s) (jEq (some (.int r)) (mkR ad G s)) := by
  refine jCon.of (by decide +kernel) rfl rfl rfl (Nat.le_of_ble_eq_true rfl) rfl ?_
  have H : (
  Option.bind (L_Mod_fits_6 p0 p1 s jF 0 0) fun (x12, x13) =>
  if jin (s 9 0) 2 then
  if ¬ (s 10 0) = 0 then
  Option.bind (α := Int32) (
    if ¬ (jrem (p2 + ((s 8 (s 9 0).toNatClampNeg) * p3)) (s 10 0)) = x12 then
      some 0
    else
      some 1) fun x18 =>
  if jbo x18 then
  some x18
  else none
  else none
  else none) = some r := H
  generalize hP9 : jEq (some (.int r)) (mkR ad G s) = P
  refine j_iconst (pc := 0) (v := 0) (jd k_Mod_fits 0 rfl) (by decide) ?_
  refine j_istore (pc := 1) (lv' := [(0, .ref (ad 0)), (1, .int p0), (2, .int p1), (3, .int p2), (4, .int p3), (5, .int 0)]) (jd k_Mod_fits 1 rfl) rfl (Nat.le_of_ble_eq_true rfl) rfl ?_
  refine j_iconst (pc := 3) (v := 0) (jd k_Mod_fits 2 rfl) (by decide) ?_
  refine j_istore (pc := 4) (lv' := [(0, .ref (ad 0)), (1, .int p0), (2, .int p1), (3, .int p2), (4, .int p3), (5, .int 0), (6, .int 0)]) (jd k_Mod_fits 3 rfl) rfl (Nat.le_of_ble_eq_true rfl) rfl ?_
  obtain ⟨⟨x12, x13⟩, h14, H⟩ := obnd H
  try dsimp only at H
  refine lp_Mod_fits_6 p0 p1 p2 p3 s jF 0 0 _ h14 ?_
  refine j_pick (lv' := [(0, .ref (ad 0)), (3, .int p2), (4, .int p3), (5, .int x12)]) [0, 3, 4, 5] rfl ?_
  refine j_iload_n (pc := 54) 1 (jd k_Mod_fits 31 rfl) rfl ?_
  refine j_aload_n (pc := 55) 0 (jd k_Mod_fits 32 rfl) rfl ?_
  refine j_get (pc := 56) (fs := flR ad s) (v := .ref (ad 6)) fl_Mod_25_10 0 (jd k_Mod_fits 33 rfl) rfl rfl ?_
  refine j_aload_n (pc := 59) 0 (jd k_Mod_fits 34 rfl) rfl ?_
  refine j_get (pc := 60) (fs := flR ad s) (v := .int (s 9 0)) fl_Mod_210_10 0 (jd k_Mod_fits 35 rfl) rfl rfl ?_
  obtain ⟨h15, H⟩ := ochk H
  refine j_iald (pc := 63) (f := s 8) 6 (jd k_Mod_fits 36 rfl) rfl (jin.vp h15) ?_
  refine j_iload (pc := 64) 2 (jd k_Mod_fits 37 rfl) rfl ?_
  refine j_imul (pc := 66) (jd k_Mod_fits 38 rfl) ?_
  refine j_iadd (pc := 67) (jd k_Mod_fits 39 rfl) ?_
  refine j_aload_n (pc := 68) 0 (jd k_Mod_fits 40 rfl) rfl ?_
  refine j_get (pc := 69) (fs := flR ad s) (v := .int (s 10 0)) fl_Mod_213_10 0 (jd k_Mod_fits 41 rfl) rfl rfl ?_
  obtain ⟨h16, H⟩ := ochk H
  refine j_irem (pc := 72) (jd k_Mod_fits 42 rfl) h16 ?_
  refine j_iload (pc := 73) 3 (jd k_Mod_fits 43 rfl) rfl ?_
  obtain ⟨x18, h19, H⟩ := obnd H
  have K20 : J G m_Mod_fits 1 0 0 P 83 [] [.int x18] (mkR ad G s) 0 0 := by
    obtain ⟨h21, H⟩ := ochk H
    cases H
    subst hP9
    exact j_iret (pc := 83) (jd k_Mod_fits 48 rfl) rfl (jbo.nar h21) ⟨rfl, rfl⟩
  have H := h19
  refine j_icmp_ne (pc := 75) (tgt := 82) (jd k_Mod_fits 44 rfl) rfl (fun h17 => ?_) (fun h17 => ?_)
  · rw [if_pos h17] at H
    refine j_iconst (pc := 82) (v := 0) (jd k_Mod_fits 47 rfl) (by decide) ?_
    cases H
    exact j_pick [] rfl K20
  · rw [if_neg (not_not_intro h17)] at H
    refine j_iconst (pc := 78) (v := 1) (jd k_Mod_fits 45 rfl) (by decide) ?_
    refine j_goto (pc := 79) (tgt := 83) (jd k_Mod_fits 46 rfl) rfl ?_
    cases H
    exact j_pick [] rfl K20

set_option maxRecDepth 20000 in
theorem lp_Mod_complain_12 {ad : Nat → Nat} {G : jG} {P : jR → va_W → Prop} (x1 : Int32) : ∀ (n : Nat) (x4 : Int32) (s5 : jS) (r : Int32 × jS), L_Mod_complain_12 x1 n x4 s5 = some r → J G m_Mod_complain 2 0 0 P 126 [(0, .ref (ad 0)), (1, .int x1), (2, .int r.1)] [] (mkR ad G r.2) 0 0 → J G m_Mod_complain 2 0 0 P 12 [(0, .ref (ad 0)), (1, .int x1), (2, .int x4)] [] (mkR ad G s5) 0 0 := by
  intro n
  induction n with
  | zero =>
    intro x4 s5 r H
    cases (show none = some r from H)
  | succ n ih =>
    intro x4 s5 r H kx
    have H : (
    if (s5 11 0) < x4 then
      some (x4, s5)
    else
      Option.bind (f_Mod_works x1 2 s5) fun x7 =>
      if x7 = 0 then
        some (x4, s5)
      else
        Option.bind (f_Mod_in (s5 23 0) x4) fun x10 =>
        Option.bind (α := jS) (
          if x10 = 0 then
            some s5
          else
            Option.bind (f_Mod_at x4 x1 s5) fun x13 =>
            if jin x13 49 then
            Option.bind (f_Mod_at x4 x1 s5) fun x16 =>
            if jin x16 49 then
            Option.bind (f_Mod_fits x4 x1 (s5 30 x13.toNatClampNeg) (s5 31 x16.toNatClampNeg) s5) fun x19 =>
            if x19 = 0 then
              if jin (x4 - 1) 7 then
              if jin (x4 - 1) 7 then
              jlet (va_up s5 28 (upd (s5 28) (x4 - 1).toNatClampNeg ((s5 28 (x4 - 1).toNatClampNeg) ||| (1 <<< ((x1 - 1) &&& 31))))) fun s23 =>
              Option.bind (f_Mod_show 2 s23) fun s26 =>
              Option.bind (f_Mod_show x1 s26) fun s28 =>
              Option.bind (f_Mod_show x4 s28) fun s30 =>
              some s30
              else none
              else none
            else
              if jin ((14 + x1) - 1) 49 then
              if (s5 21 ((14 + x1) - 1).toNatClampNeg) = x4 then
                if jin (x4 - 1) 7 then
                if jin (x4 - 1) 7 then
                jlet (va_up s5 28 (upd (s5 28) (x4 - 1).toNatClampNeg ((s5 28 (x4 - 1).toNatClampNeg) ||| (1 <<< ((x1 - 1) &&& 31))))) fun s35 =>
                Option.bind (f_Mod_show 2 s35) fun s38 =>
                Option.bind (f_Mod_show x1 s38) fun s40 =>
                Option.bind (f_Mod_show x4 s40) fun s42 =>
                some s42
                else none
                else none
              else
                some s5
              else none
            else none
            else none) fun s44 =>
        jlet (x4 + 1) fun x47 =>
        L_Mod_complain_12 x1 n x47 s44) = some r := H
    refine j_iload_n (pc := 12) 2 (jd k_Mod_complain 8 rfl) rfl ?_
    refine j_aload_n (pc := 13) 0 (jd k_Mod_complain 9 rfl) rfl ?_
    refine j_get (pc := 14) (fs := flR ad s5) (v := .int (s5 11 0)) fl_Mod_207_10 0 (jd k_Mod_complain 10 rfl) rfl rfl ?_
    refine j_icmp_gt (pc := 17) (tgt := 126) (jd k_Mod_complain 11 rfl) rfl (fun h6 => ?_) (fun h6 => ?_)
    · rw [if_pos h6] at H
      cases H
      exact kx
    · rw [if_neg h6] at H
      refine j_aload_n (pc := 20) 0 (jd k_Mod_complain 12 rfl) rfl ?_
      refine j_iload_n (pc := 21) 1 (jd k_Mod_complain 13 rfl) rfl ?_
      refine j_iconst (pc := 22) (v := 2) (jd k_Mod_complain 14 rfl) (by decide) ?_
      obtain ⟨x7, h8, H⟩ := obnd H
      refine jc_V (pc := 23) (st := []) (c_Mod_works ad G x1 2 s5 _ h8) L0_Mod_works w1344 w1346 w38 0 rfl rfl (jd k_Mod_complain 15 rfl) rfl (Nat.le_of_ble_eq_true rfl) (by decide) (Nat.le_refl _) (Nat.le_refl _) rfl rfl ?_
      refine j_if_eq (pc := 26) (tgt := 126) (jd k_Mod_complain 16 rfl) rfl (fun h9 => ?_) (fun h9 => ?_)
      · rw [if_pos h9] at H
        cases H
        exact kx
      · rw [if_neg h9] at H
        refine j_aload_n (pc := 29) 0 (jd k_Mod_complain 17 rfl) rfl ?_
        refine j_get (pc := 30) (fs := flR ad s5) (v := .int (s5 23 0)) fl_Mod_237_10 0 (jd k_Mod_complain 18 rfl) rfl rfl ?_
        refine j_iload_n (pc := 33) 2 (jd k_Mod_complain 19 rfl) rfl ?_
        obtain ⟨x10, h11, H⟩ := obnd H
        refine jc_S (pc := 34) (st := []) (c_Mod_in G _ (s5 23 0) x4 _ h11) L0_Mod_in w1384 w1385 (jd k_Mod_complain 20 rfl) rfl (Nat.le_of_ble_eq_true rfl) (by decide) (Nat.le_refl _) (Nat.le_refl _) rfl rfl ?_
        obtain ⟨s44, h45, H⟩ := obnd H
        have K46 : J G m_Mod_complain 2 0 0 P 120 [(0, .ref (ad 0)), (1, .int x1), (2, .int x4)] [] (mkR ad G s44) 0 0 := by
          obtain ⟨x47, e48, H⟩ := olet H
          refine j_iinc (pc := 120) (lv' := [(0, .ref (ad 0)), (1, .int x1), (2, .int x47)]) 2 (jd k_Mod_complain 75 rfl) rfl e48 rfl (Nat.le_of_ble_eq_true rfl) rfl ?_
          refine j_goto (pc := 123) (tgt := 12) (jd k_Mod_complain 76 rfl) rfl ?_
          exact ih x47 s44 _ H kx
        have H := h45
        refine j_if_eq (pc := 37) (tgt := 120) (jd k_Mod_complain 21 rfl) rfl (fun h12 => ?_) (fun h12 => ?_)
        · rw [if_pos h12] at H
          cases H
          exact K46
        · rw [if_neg h12] at H
          refine j_aload_n (pc := 40) 0 (jd k_Mod_complain 22 rfl) rfl ?_
          refine j_iload_n (pc := 41) 2 (jd k_Mod_complain 23 rfl) rfl ?_
          refine j_iload_n (pc := 42) 1 (jd k_Mod_complain 24 rfl) rfl ?_
          refine j_aload_n (pc := 43) 0 (jd k_Mod_complain 25 rfl) rfl ?_
          refine j_get (pc := 44) (fs := flR ad s5) (v := .ref (ad 13)) fl_Mod_46_10 0 (jd k_Mod_complain 26 rfl) rfl rfl ?_
          refine j_aload_n (pc := 47) 0 (jd k_Mod_complain 27 rfl) rfl ?_
          refine j_iload_n (pc := 48) 2 (jd k_Mod_complain 28 rfl) rfl ?_
          refine j_iload_n (pc := 49) 1 (jd k_Mod_complain 29 rfl) rfl ?_
          obtain ⟨x13, h14, H⟩ := obnd H
          refine jc_V (pc := 50) (st := [.ref (ad 13), .int x1, .int x4, .ref (ad 0)]) (c_Mod_at ad G x4 x1 s5 _ h14) L0_Mod_at w1364 w1366 w43 0 rfl rfl (jd k_Mod_complain 30 rfl) rfl (Nat.le_of_ble_eq_true rfl) (by decide) (Nat.le_refl _) (Nat.le_refl _) rfl rfl ?_
          obtain ⟨h15, H⟩ := ochk H
          refine j_iald (pc := 53) (f := s5 30) 13 (jd k_Mod_complain 31 rfl) rfl (jin.vp h15) ?_
          refine j_aload_n (pc := 54) 0 (jd k_Mod_complain 32 rfl) rfl ?_
          refine j_get (pc := 55) (fs := flR ad s5) (v := .ref (ad 14)) fl_Mod_49_10 0 (jd k_Mod_complain 33 rfl) rfl rfl ?_
          refine j_aload_n (pc := 58) 0 (jd k_Mod_complain 34 rfl) rfl ?_
          refine j_iload_n (pc := 59) 2 (jd k_Mod_complain 35 rfl) rfl ?_
          refine j_iload_n (pc := 60) 1 (jd k_Mod_complain 36 rfl) rfl ?_
          obtain ⟨x16, h17, H⟩ := obnd H
          refine jc_V (pc := 61) (st := [.ref (ad 14), .int (s5 30 x13.toNatClampNeg), .int x1, .int x4, .ref (ad 0)]) (c_Mod_at ad G x4 x1 s5 _ h17) L0_Mod_at w1364 w1366 w43 0 rfl rfl (jd k_Mod_complain 37 rfl) rfl (Nat.le_of_ble_eq_true rfl) (by decide) (Nat.le_refl _) (Nat.le_refl _) rfl rfl ?_
          obtain ⟨h18, H⟩ := ochk H
          refine j_iald (pc := 64) (f := s5 31) 14 (jd k_Mod_complain 38 rfl) rfl (jin.vp h18) ?_
          obtain ⟨x19, h20, H⟩ := obnd H
          refine jc_V (pc := 65) (st := []) (c_Mod_fits ad G x4 x1 (s5 30 x13.toNatClampNeg) (s5 31 x16.toNatClampNeg) s5 _ h20) L0_Mod_fits w1387 w1389 w48 0 rfl rfl (jd k_Mod_complain 39 rfl) rfl (Nat.le_of_ble_eq_true rfl) (by decide) (Nat.le_refl _) (Nat.le_refl _) rfl rfl ?_
          refine j_if_eq (pc := 68) (tgt := 89) (jd k_Mod_complain 40 rfl) rfl (fun h21 => ?_) (fun h21 => ?_)
          · rw [if_pos h21] at H
            refine j_aload_n (pc := 89) 0 (jd k_Mod_complain 52 rfl) rfl ?_
            refine j_get (pc := 90) (fs := flR ad s5) (v := .ref (ad 11)) fl_Mod_40_10 0 (jd k_Mod_complain 53 rfl) rfl rfl ?_
            refine j_iload_n (pc := 93) 2 (jd k_Mod_complain 54 rfl) rfl ?_
            refine j_iconst (pc := 94) (v := 1) (jd k_Mod_complain 55 rfl) (by decide) ?_
            refine j_isub (pc := 95) (jd k_Mod_complain 56 rfl) ?_
            refine j_dup2 (pc := 96) (jd k_Mod_complain 57 rfl) rfl rfl ?_
            obtain ⟨h22, H⟩ := ochk H
            refine j_iald (pc := 97) (f := s5 28) 11 (jd k_Mod_complain 58 rfl) rfl (jin.vp h22) ?_
            refine j_iconst (pc := 98) (v := 1) (jd k_Mod_complain 59 rfl) (by decide) ?_
            refine j_iload_n (pc := 99) 1 (jd k_Mod_complain 60 rfl) rfl ?_
            refine j_iconst (pc := 100) (v := 1) (jd k_Mod_complain 61 rfl) (by decide) ?_
            refine j_isub (pc := 101) (jd k_Mod_complain 62 rfl) ?_
            refine j_ishl (pc := 102) (jd k_Mod_complain 63 rfl) ?_
            refine j_ior (pc := 103) (jd k_Mod_complain 64 rfl) ?_
            obtain ⟨h25, H⟩ := ochk H
            obtain ⟨s23, e24, H⟩ := olet H
            refine j_iast (pc := 104) (f := s5 28) 11 (jd k_Mod_complain 65 rfl) rfl (jin.vp h25) ((waR_28 ad G s5 _).trans (congrArg (mkR ad G) e24)) ?_
            refine j_aload_n (pc := 105) 0 (jd k_Mod_complain 66 rfl) rfl ?_
            refine j_iconst (pc := 106) (v := 2) (jd k_Mod_complain 67 rfl) (by decide) ?_
            obtain ⟨s26, h27, H⟩ := obnd H
            refine jc_V (pc := 107) (st := []) (c_Mod_show ad G 2 s23 _ h27) L0_Mod_show w1352 w1354 w40 0 rfl rfl (jd k_Mod_complain 68 rfl) rfl (Nat.le_of_ble_eq_true rfl) (by decide) (Nat.le_refl _) (Nat.le_refl _) rfl rfl ?_
            refine j_aload_n (pc := 110) 0 (jd k_Mod_complain 69 rfl) rfl ?_
            refine j_iload_n (pc := 111) 1 (jd k_Mod_complain 70 rfl) rfl ?_
            obtain ⟨s28, h29, H⟩ := obnd H
            refine jc_V (pc := 112) (st := []) (c_Mod_show ad G x1 s26 _ h29) L0_Mod_show w1352 w1354 w40 0 rfl rfl (jd k_Mod_complain 71 rfl) rfl (Nat.le_of_ble_eq_true rfl) (by decide) (Nat.le_refl _) (Nat.le_refl _) rfl rfl ?_
            refine j_aload_n (pc := 115) 0 (jd k_Mod_complain 72 rfl) rfl ?_
            refine j_iload_n (pc := 116) 2 (jd k_Mod_complain 73 rfl) rfl ?_
            obtain ⟨s30, h31, H⟩ := obnd H
            refine jc_V (pc := 117) (st := []) (c_Mod_show ad G x4 s28 _ h31) L0_Mod_show w1352 w1354 w40 0 rfl rfl (jd k_Mod_complain 74 rfl) rfl (Nat.le_of_ble_eq_true rfl) (by decide) (Nat.le_refl _) (Nat.le_refl _) rfl rfl ?_
            cases H
            exact K46
          · rw [if_neg h21] at H
            refine j_aload_n (pc := 71) 0 (jd k_Mod_complain 41 rfl) rfl ?_
            refine j_get (pc := 72) (fs := flR ad s5) (v := .ref (ad 9)) fl_Mod_34_10 0 (jd k_Mod_complain 42 rfl) rfl rfl ?_
            refine j_bipush (pc := 75) (v := 14) (jd k_Mod_complain 43 rfl) (by decide) ?_
            refine j_iload_n (pc := 77) 1 (jd k_Mod_complain 44 rfl) rfl ?_
            refine j_iadd (pc := 78) (jd k_Mod_complain 45 rfl) ?_
            refine j_iconst (pc := 79) (v := 1) (jd k_Mod_complain 46 rfl) (by decide) ?_
            refine j_isub (pc := 80) (jd k_Mod_complain 47 rfl) ?_
            obtain ⟨h32, H⟩ := ochk H
            refine j_iald (pc := 81) (f := s5 21) 9 (jd k_Mod_complain 48 rfl) rfl (jin.vp h32) ?_
            refine j_iload_n (pc := 82) 2 (jd k_Mod_complain 49 rfl) rfl ?_
            refine j_icmp_eq (pc := 83) (tgt := 89) (jd k_Mod_complain 50 rfl) rfl (fun h33 => ?_) (fun h33 => ?_)
            · rw [if_pos h33] at H
              refine j_aload_n (pc := 89) 0 (jd k_Mod_complain 52 rfl) rfl ?_
              refine j_get (pc := 90) (fs := flR ad s5) (v := .ref (ad 11)) fl_Mod_40_10 0 (jd k_Mod_complain 53 rfl) rfl rfl ?_
              refine j_iload_n (pc := 93) 2 (jd k_Mod_complain 54 rfl) rfl ?_
              refine j_iconst (pc := 94) (v := 1) (jd k_Mod_complain 55 rfl) (by decide) ?_
              refine j_isub (pc := 95) (jd k_Mod_complain 56 rfl) ?_
              refine j_dup2 (pc := 96) (jd k_Mod_complain 57 rfl) rfl rfl ?_
              obtain ⟨h34, H⟩ := ochk H
              refine j_iald (pc := 97) (f := s5 28) 11 (jd k_Mod_complain 58 rfl) rfl (jin.vp h34) ?_
              refine j_iconst (pc := 98) (v := 1) (jd k_Mod_complain 59 rfl) (by decide) ?_
              refine j_iload_n (pc := 99) 1 (jd k_Mod_complain 60 rfl) rfl ?_
              refine j_iconst (pc := 100) (v := 1) (jd k_Mod_complain 61 rfl) (by decide) ?_
              refine j_isub (pc := 101) (jd k_Mod_complain 62 rfl) ?_
              refine j_ishl (pc := 102) (jd k_Mod_complain 63 rfl) ?_
              refine j_ior (pc := 103) (jd k_Mod_complain 64 rfl) ?_
              obtain ⟨h37, H⟩ := ochk H
              obtain ⟨s35, e36, H⟩ := olet H
              refine j_iast (pc := 104) (f := s5 28) 11 (jd k_Mod_complain 65 rfl) rfl (jin.vp h37) ((waR_28 ad G s5 _).trans (congrArg (mkR ad G) e36)) ?_
              refine j_aload_n (pc := 105) 0 (jd k_Mod_complain 66 rfl) rfl ?_
              refine j_iconst (pc := 106) (v := 2) (jd k_Mod_complain 67 rfl) (by decide) ?_
              obtain ⟨s38, h39, H⟩ := obnd H
              refine jc_V (pc := 107) (st := []) (c_Mod_show ad G 2 s35 _ h39) L0_Mod_show w1352 w1354 w40 0 rfl rfl (jd k_Mod_complain 68 rfl) rfl (Nat.le_of_ble_eq_true rfl) (by decide) (Nat.le_refl _) (Nat.le_refl _) rfl rfl ?_
              refine j_aload_n (pc := 110) 0 (jd k_Mod_complain 69 rfl) rfl ?_
              refine j_iload_n (pc := 111) 1 (jd k_Mod_complain 70 rfl) rfl ?_
              obtain ⟨s40, h41, H⟩ := obnd H
              refine jc_V (pc := 112) (st := []) (c_Mod_show ad G x1 s38 _ h41) L0_Mod_show w1352 w1354 w40 0 rfl rfl (jd k_Mod_complain 71 rfl) rfl (Nat.le_of_ble_eq_true rfl) (by decide) (Nat.le_refl _) (Nat.le_refl _) rfl rfl ?_
              refine j_aload_n (pc := 115) 0 (jd k_Mod_complain 72 rfl) rfl ?_
              refine j_iload_n (pc := 116) 2 (jd k_Mod_complain 73 rfl) rfl ?_
              obtain ⟨s42, h43, H⟩ := obnd H
              refine jc_V (pc := 117) (st := []) (c_Mod_show ad G x4 s40 _ h43) L0_Mod_show w1352 w1354 w40 0 rfl rfl (jd k_Mod_complain 74 rfl) rfl (Nat.le_of_ble_eq_true rfl) (by decide) (Nat.le_refl _) (Nat.le_refl _) rfl rfl ?_
              cases H
              exact K46
            · rw [if_neg h33] at H
              refine j_goto (pc := 86) (tgt := 120) (jd k_Mod_complain 51 rfl) rfl ?_
              cases H
              exact K46

set_option maxRecDepth 20000 in
theorem lp_Mod_complain_2 {ad : Nat → Nat} {G : jG} {P : jR → va_W → Prop} : ∀ (n : Nat) (x1 : Int32) (s2 : jS) (r : Int32 × jS), L_Mod_complain_2 n x1 s2 = some r → J G m_Mod_complain 2 0 0 P 132 [(0, .ref (ad 0)), (1, .int r.1)] [] (mkR ad G r.2) 0 0 → J G m_Mod_complain 2 0 0 P 2 [(0, .ref (ad 0)), (1, .int x1)] [] (mkR ad G s2) 0 0 := by
  intro n
  induction n with
  | zero =>
    intro x1 s2 r H
    cases (show none = some r from H)
  | succ n ih =>
    intro x1 s2 r H kx
    have H : (
    if (s2 11 0) < x1 then
      some (x1, s2)
    else
      Option.bind (L_Mod_complain_12 x1 jF 1 s2) fun (x49, s50) =>
      jlet (x1 + 1) fun x52 =>
      L_Mod_complain_2 n x52 s50) = some r := H
    refine j_iload_n (pc := 2) 1 (jd k_Mod_complain 2 rfl) rfl ?_
    refine j_aload_n (pc := 3) 0 (jd k_Mod_complain 3 rfl) rfl ?_
    refine j_get (pc := 4) (fs := flR ad s2) (v := .int (s2 11 0)) fl_Mod_207_10 0 (jd k_Mod_complain 4 rfl) rfl rfl ?_
    refine j_icmp_gt (pc := 7) (tgt := 132) (jd k_Mod_complain 5 rfl) rfl (fun h3 => ?_) (fun h3 => ?_)
    · rw [if_pos h3] at H
      cases H
      exact kx
    · rw [if_neg h3] at H
      refine j_iconst (pc := 10) (v := 1) (jd k_Mod_complain 6 rfl) (by decide) ?_
      refine j_istore_n (pc := 11) (lv' := [(0, .ref (ad 0)), (1, .int x1), (2, .int 1)]) (jd k_Mod_complain 7 rfl) rfl (Nat.le_of_ble_eq_true rfl) rfl ?_
      obtain ⟨⟨x49, s50⟩, h51, H⟩ := obnd H
      try dsimp only at H
      refine lp_Mod_complain_12 x1 jF 1 s2 _ h51 ?_
      refine j_pick (lv' := [(0, .ref (ad 0)), (1, .int x1)]) [0, 1] rfl ?_
      obtain ⟨x52, e53, H⟩ := olet H
      refine j_iinc (pc := 126) (lv' := [(0, .ref (ad 0)), (1, .int x52)]) 1 (jd k_Mod_complain 77 rfl) rfl e53 rfl (Nat.le_of_ble_eq_true rfl) rfl ?_
      refine j_goto (pc := 129) (tgt := 2) (jd k_Mod_complain 78 rfl) rfl ?_
      exact ih x52 s50 _ H kx

set_option maxRecDepth 20000 in
theorem c_Mod_complain (ad : Nat → Nat) (G : jG) (s : jS) (r : jS) (H : f_Mod_complain s = some r) : jCon G m_Mod_complain y_Mod_complain 2 0 0 [.ref (ad 0)] (mkR ad G s) (jEq none (mkR ad G r)) := by
  refine jCon.of (by decide +kernel) rfl rfl rfl (Nat.le_of_ble_eq_true rfl) rfl ?_
  have H : (
  Option.bind (L_Mod_complain_2 jF 1 s) fun (x54, s55) =>
  some s55) = some r := H
  generalize hP9 : jEq none (mkR ad G r) = P
  refine j_iconst (pc := 0) (v := 1) (jd k_Mod_complain 0 rfl) (by decide) ?_
  refine j_istore_n (pc := 1) (lv' := [(0, .ref (ad 0)), (1, .int 1)]) (jd k_Mod_complain 1 rfl) rfl (Nat.le_of_ble_eq_true rfl) rfl ?_
  obtain ⟨⟨x54, s55⟩, h56, H⟩ := obnd H
  try dsimp only at H
  refine lp_Mod_complain_2  jF 1 s _ h56 ?_
  refine j_pick (lv' := []) [] rfl ?_
  cases H
  subst hP9
  exact j_vret (pc := 132) (jd k_Mod_complain 79 rfl) rfl ⟨rfl, rfl⟩

set_option maxRecDepth 20000 in
theorem c_Mod_showNumbers (ad : Nat → Nat) (G : jG) (p0 : Int32) (p1 : Int32) (p2 : Int32) (p3 : Int32) (p4 : Int32) (s : jS) (r : jS) (H : f_Mod_showNumbers p0 p1 p2 p3 p4 s = some r) : jCon G m_Mod_showNumbers y_Mod_showNumbers 2 0 0 [.ref (ad 0), .int p0, .int p1, .int p2, .int p3, .int p4] (mkR ad G s) (jEq none (mkR ad G r)) := by
  refine jCon.of (by decide +kernel) rfl rfl rfl (Nat.le_of_ble_eq_true rfl) rfl ?_
  have H : (
  Option.bind (f_Mod_show p0 s) fun s1 =>
  Option.bind (f_Mod_show p1 s1) fun s3 =>
  Option.bind (f_Mod_show p2 s3) fun s5 =>
  Option.bind (f_Mod_showTwo p3 s5) fun s7 =>
  Option.bind (f_Mod_showTwo p4 s7) fun s9 =>
  some s9) = some r := H
  generalize hP9 : jEq none (mkR ad G r) = P
  refine j_aload_n (pc := 0) 0 (jd k_Mod_showNumbers 0 rfl) rfl ?_
  refine j_iload_n (pc := 1) 1 (jd k_Mod_showNumbers 1 rfl) rfl ?_
  obtain ⟨s1, h2, H⟩ := obnd H
  refine jc_V (pc := 2) (st := []) (c_Mod_show ad G p0 s _ h2) L0_Mod_show w1352 w1354 w40 0 rfl rfl (jd k_Mod_showNumbers 2 rfl) rfl (Nat.le_of_ble_eq_true rfl) (by decide) (Nat.le_refl _) (Nat.le_refl _) rfl rfl ?_
  refine j_aload_n (pc := 5) 0 (jd k_Mod_showNumbers 3 rfl) rfl ?_
  refine j_iload_n (pc := 6) 2 (jd k_Mod_showNumbers 4 rfl) rfl ?_
  obtain ⟨s3, h4, H⟩ := obnd H
  refine jc_V (pc := 7) (st := []) (c_Mod_show ad G p1 s1 _ h4) L0_Mod_show w1352 w1354 w40 0 rfl rfl (jd k_Mod_showNumbers 5 rfl) rfl (Nat.le_of_ble_eq_true rfl) (by decide) (Nat.le_refl _) (Nat.le_refl _) rfl rfl ?_
  refine j_aload_n (pc := 10) 0 (jd k_Mod_showNumbers 6 rfl) rfl ?_
  refine j_iload_n (pc := 11) 3 (jd k_Mod_showNumbers 7 rfl) rfl ?_
  obtain ⟨s5, h6, H⟩ := obnd H
  refine jc_V (pc := 12) (st := []) (c_Mod_show ad G p2 s3 _ h6) L0_Mod_show w1352 w1354 w40 0 rfl rfl (jd k_Mod_showNumbers 8 rfl) rfl (Nat.le_of_ble_eq_true rfl) (by decide) (Nat.le_refl _) (Nat.le_refl _) rfl rfl ?_
  refine j_aload_n (pc := 15) 0 (jd k_Mod_showNumbers 9 rfl) rfl ?_
  refine j_iload (pc := 16) 4 (jd k_Mod_showNumbers 10 rfl) rfl ?_
  obtain ⟨s7, h8, H⟩ := obnd H
  refine jc_V (pc := 18) (st := []) (c_Mod_showTwo ad G p3 s5 _ h8) L0_Mod_showTwo w1360 w1362 w42 0 rfl rfl (jd k_Mod_showNumbers 11 rfl) rfl (Nat.le_of_ble_eq_true rfl) (by decide) (Nat.le_refl _) (Nat.le_refl _) rfl rfl ?_
  refine j_aload_n (pc := 21) 0 (jd k_Mod_showNumbers 12 rfl) rfl ?_
  refine j_iload (pc := 22) 5 (jd k_Mod_showNumbers 13 rfl) rfl ?_
  obtain ⟨s9, h10, H⟩ := obnd H
  refine jc_V (pc := 24) (st := []) (c_Mod_showTwo ad G p4 s7 _ h10) L0_Mod_showTwo w1360 w1362 w42 0 rfl rfl (jd k_Mod_showNumbers 14 rfl) rfl (Nat.le_of_ble_eq_true rfl) (by decide) (Nat.le_refl _) (Nat.le_refl _) rfl rfl ?_
  cases H
  subst hP9
  exact j_vret (pc := 27) (jd k_Mod_showNumbers 15 rfl) rfl ⟨rfl, rfl⟩

set_option maxRecDepth 20000 in
theorem lp_Mod_answer_12 {ad : Nat → Nat} {G : jG} {P : jR → va_W → Prop} (x1 : Int32) : ∀ (n : Nat) (x4 : Int32) (s5 : jS) (r : Int32 × jS), L_Mod_answer_12 x1 n x4 s5 = some r → J G m_Mod_answer 3 0 0 P 161 [(0, .ref (ad 0)), (1, .int x1), (2, .int r.1)] [] (mkR ad G r.2) 0 0 → J G m_Mod_answer 3 0 0 P 12 [(0, .ref (ad 0)), (1, .int x1), (2, .int x4)] [] (mkR ad G s5) 0 0 := by
  intro n
  induction n with
  | zero =>
    intro x4 s5 r H
    cases (show none = some r from H)
  | succ n ih =>
    intro x4 s5 r H kx
    have H : (
    if (s5 11 0) < x4 then
      some (x4, s5)
    else
      Option.bind (f_Mod_works x1 3 s5) fun x7 =>
      if x7 = 0 then
        some (x4, s5)
      else
        Option.bind (f_Mod_is x1 3 s5) fun x10 =>
        if ¬ x10 = 0 then
          some (x4, s5)
        else
          if jin (x1 - 1) 7 then
          Option.bind (f_Mod_in (s5 28 (x1 - 1).toNatClampNeg) x4) fun x14 =>
          Option.bind (α := jS) (
            if ¬ x14 = 0 then
              if jin (x1 - 1) 7 then
              if jin (x1 - 1) 7 then
              jlet (va_up s5 29 (upd (s5 29) (x1 - 1).toNatClampNeg ((s5 29 (x1 - 1).toNatClampNeg) ||| (1 <<< ((x4 - 1) &&& 31))))) fun s18 =>
              Option.bind (f_Mod_at x1 x4 s18) fun x21 =>
              Option.bind (f_Mod_f x1 x4 s18) fun x23 =>
              Option.bind (f_Mod_is x1 4 s18) fun x25 =>
              Option.bind (α := Int32) (
                if x25 = 0 then
                  some 0
                else
                  some 1) fun x28 =>
              if ¬ (s18 10 0) = 0 then
              if jin x21 49 then
              jlet (va_up s18 32 (upd (s18 32) x21.toNatClampNeg (jrem (x23 + x28) (s18 10 0)))) fun s32 =>
              Option.bind (f_Mod_at x1 x4 s32) fun x35 =>
              Option.bind (f_Mod_blind x1 x4 s32) fun x37 =>
              if jin x35 49 then
              jlet (va_up s32 33 (upd (s32 33) x35.toNatClampNeg x37)) fun s39 =>
              Option.bind (f_Mod_at x1 x4 s39) fun x42 =>
              if jin x42 49 then
              Option.bind (f_Mod_at x1 x4 s39) fun x45 =>
              if jin x45 49 then
              Option.bind (f_Mod_showNumbers 3 x1 x4 (s39 32 x42.toNatClampNeg) (s39 33 x45.toNatClampNeg) s39) fun s48 =>
              some s48
              else none
              else none
              else none
              else none
              else none
              else none
              else none
            else
              some s5) fun s50 =>
          jlet (x4 + 1) fun x53 =>
          L_Mod_answer_12 x1 n x53 s50
          else none) = some r := H
    refine j_iload_n (pc := 12) 2 (jd k_Mod_answer 8 rfl) rfl ?_
    refine j_aload_n (pc := 13) 0 (jd k_Mod_answer 9 rfl) rfl ?_
    refine j_get (pc := 14) (fs := flR ad s5) (v := .int (s5 11 0)) fl_Mod_207_10 0 (jd k_Mod_answer 10 rfl) rfl rfl ?_
    refine j_icmp_gt (pc := 17) (tgt := 161) (jd k_Mod_answer 11 rfl) rfl (fun h6 => ?_) (fun h6 => ?_)
    · rw [if_pos h6] at H
      cases H
      exact kx
    · rw [if_neg h6] at H
      refine j_aload_n (pc := 20) 0 (jd k_Mod_answer 12 rfl) rfl ?_
      refine j_iload_n (pc := 21) 1 (jd k_Mod_answer 13 rfl) rfl ?_
      refine j_iconst (pc := 22) (v := 3) (jd k_Mod_answer 14 rfl) (by decide) ?_
      obtain ⟨x7, h8, H⟩ := obnd H
      refine jc_V (pc := 23) (st := []) (c_Mod_works ad G x1 3 s5 _ h8) L0_Mod_works w1344 w1346 w38 0 rfl rfl (jd k_Mod_answer 15 rfl) rfl (Nat.le_of_ble_eq_true rfl) (by decide) (Nat.le_refl _) (Nat.le_refl _) rfl rfl ?_
      refine j_if_eq (pc := 26) (tgt := 161) (jd k_Mod_answer 16 rfl) rfl (fun h9 => ?_) (fun h9 => ?_)
      · rw [if_pos h9] at H
        cases H
        exact kx
      · rw [if_neg h9] at H
        refine j_aload_n (pc := 29) 0 (jd k_Mod_answer 17 rfl) rfl ?_
        refine j_iload_n (pc := 30) 1 (jd k_Mod_answer 18 rfl) rfl ?_
        refine j_iconst (pc := 31) (v := 3) (jd k_Mod_answer 19 rfl) (by decide) ?_
        obtain ⟨x10, h11, H⟩ := obnd H
        refine jc_V (pc := 32) (st := []) (c_Mod_is ad G x1 3 s5 _ h11) L0_Mod_is w1348 w1350 w39 0 rfl rfl (jd k_Mod_answer 20 rfl) rfl (Nat.le_of_ble_eq_true rfl) (by decide) (Nat.le_refl _) (Nat.le_refl _) rfl rfl ?_
        refine j_if_ne (pc := 35) (tgt := 161) (jd k_Mod_answer 21 rfl) rfl (fun h12 => ?_) (fun h12 => ?_)
        · rw [if_pos h12] at H
          cases H
          exact kx
        · rw [if_neg (not_not_intro h12)] at H
          refine j_aload_n (pc := 38) 0 (jd k_Mod_answer 22 rfl) rfl ?_
          refine j_get (pc := 39) (fs := flR ad s5) (v := .ref (ad 11)) fl_Mod_40_10 0 (jd k_Mod_answer 23 rfl) rfl rfl ?_
          refine j_iload_n (pc := 42) 1 (jd k_Mod_answer 24 rfl) rfl ?_
          refine j_iconst (pc := 43) (v := 1) (jd k_Mod_answer 25 rfl) (by decide) ?_
          refine j_isub (pc := 44) (jd k_Mod_answer 26 rfl) ?_
          obtain ⟨h13, H⟩ := ochk H
          refine j_iald (pc := 45) (f := s5 28) 11 (jd k_Mod_answer 27 rfl) rfl (jin.vp h13) ?_
          refine j_iload_n (pc := 46) 2 (jd k_Mod_answer 28 rfl) rfl ?_
          obtain ⟨x14, h15, H⟩ := obnd H
          refine jc_S (pc := 47) (st := []) (c_Mod_in G _ (s5 28 (x1 - 1).toNatClampNeg) x4 _ h15) L0_Mod_in w1384 w1385 (jd k_Mod_answer 29 rfl) rfl (Nat.le_of_ble_eq_true rfl) (by decide) (Nat.le_refl _) (Nat.le_refl _) rfl rfl ?_
          obtain ⟨s50, h51, H⟩ := obnd H
          have K52 : J G m_Mod_answer 3 0 0 P 155 [(0, .ref (ad 0)), (1, .int x1), (2, .int x4)] [] (mkR ad G s50) 0 0 := by
            obtain ⟨x53, e54, H⟩ := olet H
            refine j_iinc (pc := 155) (lv' := [(0, .ref (ad 0)), (1, .int x1), (2, .int x53)]) 2 (jd k_Mod_answer 99 rfl) rfl e54 rfl (Nat.le_of_ble_eq_true rfl) rfl ?_
            refine j_goto (pc := 158) (tgt := 12) (jd k_Mod_answer 100 rfl) rfl ?_
            exact ih x53 s50 _ H kx
          have H := h51
          refine j_if_ne (pc := 50) (tgt := 56) (jd k_Mod_answer 30 rfl) rfl (fun h16 => ?_) (fun h16 => ?_)
          · rw [if_pos h16] at H
            refine j_aload_n (pc := 56) 0 (jd k_Mod_answer 32 rfl) rfl ?_
            refine j_get (pc := 57) (fs := flR ad s5) (v := .ref (ad 12)) fl_Mod_43_10 0 (jd k_Mod_answer 33 rfl) rfl rfl ?_
            refine j_iload_n (pc := 60) 1 (jd k_Mod_answer 34 rfl) rfl ?_
            refine j_iconst (pc := 61) (v := 1) (jd k_Mod_answer 35 rfl) (by decide) ?_
            refine j_isub (pc := 62) (jd k_Mod_answer 36 rfl) ?_
            refine j_dup2 (pc := 63) (jd k_Mod_answer 37 rfl) rfl rfl ?_
            obtain ⟨h17, H⟩ := ochk H
            refine j_iald (pc := 64) (f := s5 29) 12 (jd k_Mod_answer 38 rfl) rfl (jin.vp h17) ?_
            refine j_iconst (pc := 65) (v := 1) (jd k_Mod_answer 39 rfl) (by decide) ?_
            refine j_iload_n (pc := 66) 2 (jd k_Mod_answer 40 rfl) rfl ?_
            refine j_iconst (pc := 67) (v := 1) (jd k_Mod_answer 41 rfl) (by decide) ?_
            refine j_isub (pc := 68) (jd k_Mod_answer 42 rfl) ?_
            refine j_ishl (pc := 69) (jd k_Mod_answer 43 rfl) ?_
            refine j_ior (pc := 70) (jd k_Mod_answer 44 rfl) ?_
            obtain ⟨h20, H⟩ := ochk H
            obtain ⟨s18, e19, H⟩ := olet H
            refine j_iast (pc := 71) (f := s5 29) 12 (jd k_Mod_answer 45 rfl) rfl (jin.vp h20) ((waR_29 ad G s5 _).trans (congrArg (mkR ad G) e19)) ?_
            refine j_aload_n (pc := 72) 0 (jd k_Mod_answer 46 rfl) rfl ?_
            refine j_get (pc := 73) (fs := flR ad s18) (v := .ref (ad 15)) fl_Mod_52_10 0 (jd k_Mod_answer 47 rfl) rfl rfl ?_
            refine j_aload_n (pc := 76) 0 (jd k_Mod_answer 48 rfl) rfl ?_
            refine j_iload_n (pc := 77) 1 (jd k_Mod_answer 49 rfl) rfl ?_
            refine j_iload_n (pc := 78) 2 (jd k_Mod_answer 50 rfl) rfl ?_
            obtain ⟨x21, h22, H⟩ := obnd H
            refine jc_V (pc := 79) (st := [.ref (ad 15)]) (c_Mod_at ad G x1 x4 s18 _ h22) L0_Mod_at w1364 w1366 w43 0 rfl rfl (jd k_Mod_answer 51 rfl) rfl (Nat.le_of_ble_eq_true rfl) (by decide) (Nat.le_refl _) (Nat.le_refl _) rfl rfl ?_
            refine j_aload_n (pc := 82) 0 (jd k_Mod_answer 52 rfl) rfl ?_
            refine j_iload_n (pc := 83) 1 (jd k_Mod_answer 53 rfl) rfl ?_
            refine j_iload_n (pc := 84) 2 (jd k_Mod_answer 54 rfl) rfl ?_
            obtain ⟨x23, h24, H⟩ := obnd H
            refine jc_V (pc := 85) (st := [.int x21, .ref (ad 15)]) (c_Mod_f ad G x1 x4 s18 _ h24) L0_Mod_f w1368 w1370 w44 0 rfl rfl (jd k_Mod_answer 55 rfl) rfl (Nat.le_of_ble_eq_true rfl) (by decide) (Nat.le_refl _) (Nat.le_refl _) rfl rfl ?_
            refine j_aload_n (pc := 88) 0 (jd k_Mod_answer 56 rfl) rfl ?_
            refine j_iload_n (pc := 89) 1 (jd k_Mod_answer 57 rfl) rfl ?_
            refine j_iconst (pc := 90) (v := 4) (jd k_Mod_answer 58 rfl) (by decide) ?_
            obtain ⟨x25, h26, H⟩ := obnd H
            refine jc_V (pc := 91) (st := [.int x23, .int x21, .ref (ad 15)]) (c_Mod_is ad G x1 4 s18 _ h26) L0_Mod_is w1348 w1350 w39 0 rfl rfl (jd k_Mod_answer 59 rfl) rfl (Nat.le_of_ble_eq_true rfl) (by decide) (Nat.le_refl _) (Nat.le_refl _) rfl rfl ?_
            obtain ⟨x28, h29, H⟩ := obnd H
            have K30 : J G m_Mod_answer 3 0 0 P 102 [(0, .ref (ad 0)), (1, .int x1), (2, .int x4)] [.int x28, .int x23, .int x21, .ref (ad 15)] (mkR ad G s18) 0 0 := by
              refine j_iadd (pc := 102) (jd k_Mod_answer 64 rfl) ?_
              refine j_aload_n (pc := 103) 0 (jd k_Mod_answer 65 rfl) rfl ?_
              refine j_get (pc := 104) (fs := flR ad s18) (v := .int (s18 10 0)) fl_Mod_213_10 0 (jd k_Mod_answer 66 rfl) rfl rfl ?_
              obtain ⟨h31, H⟩ := ochk H
              refine j_irem (pc := 107) (jd k_Mod_answer 67 rfl) h31 ?_
              obtain ⟨h34, H⟩ := ochk H
              obtain ⟨s32, e33, H⟩ := olet H
              refine j_iast (pc := 108) (f := s18 32) 15 (jd k_Mod_answer 68 rfl) rfl (jin.vp h34) ((waR_32 ad G s18 _).trans (congrArg (mkR ad G) e33)) ?_
              refine j_aload_n (pc := 109) 0 (jd k_Mod_answer 69 rfl) rfl ?_
              refine j_get (pc := 110) (fs := flR ad s32) (v := .ref (ad 16)) fl_Mod_55_10 0 (jd k_Mod_answer 70 rfl) rfl rfl ?_
              refine j_aload_n (pc := 113) 0 (jd k_Mod_answer 71 rfl) rfl ?_
              refine j_iload_n (pc := 114) 1 (jd k_Mod_answer 72 rfl) rfl ?_
              refine j_iload_n (pc := 115) 2 (jd k_Mod_answer 73 rfl) rfl ?_
              obtain ⟨x35, h36, H⟩ := obnd H
              refine jc_V (pc := 116) (st := [.ref (ad 16)]) (c_Mod_at ad G x1 x4 s32 _ h36) L0_Mod_at w1364 w1366 w43 0 rfl rfl (jd k_Mod_answer 74 rfl) rfl (Nat.le_of_ble_eq_true rfl) (by decide) (Nat.le_refl _) (Nat.le_refl _) rfl rfl ?_
              refine j_aload_n (pc := 119) 0 (jd k_Mod_answer 75 rfl) rfl ?_
              refine j_iload_n (pc := 120) 1 (jd k_Mod_answer 76 rfl) rfl ?_
              refine j_iload_n (pc := 121) 2 (jd k_Mod_answer 77 rfl) rfl ?_
              obtain ⟨x37, h38, H⟩ := obnd H
              refine jc_V (pc := 122) (st := [.int x35, .ref (ad 16)]) (c_Mod_blind ad G x1 x4 s32 _ h38) L0_Mod_blind w1376 w1378 w46 0 rfl rfl (jd k_Mod_answer 78 rfl) rfl (Nat.le_of_ble_eq_true rfl) (by decide) (Nat.le_refl _) (Nat.le_refl _) rfl rfl ?_
              obtain ⟨h41, H⟩ := ochk H
              obtain ⟨s39, e40, H⟩ := olet H
              refine j_iast (pc := 125) (f := s32 33) 16 (jd k_Mod_answer 79 rfl) rfl (jin.vp h41) ((waR_33 ad G s32 _).trans (congrArg (mkR ad G) e40)) ?_
              refine j_aload_n (pc := 126) 0 (jd k_Mod_answer 80 rfl) rfl ?_
              refine j_iconst (pc := 127) (v := 3) (jd k_Mod_answer 81 rfl) (by decide) ?_
              refine j_iload_n (pc := 128) 1 (jd k_Mod_answer 82 rfl) rfl ?_
              refine j_iload_n (pc := 129) 2 (jd k_Mod_answer 83 rfl) rfl ?_
              refine j_aload_n (pc := 130) 0 (jd k_Mod_answer 84 rfl) rfl ?_
              refine j_get (pc := 131) (fs := flR ad s39) (v := .ref (ad 15)) fl_Mod_52_10 0 (jd k_Mod_answer 85 rfl) rfl rfl ?_
              refine j_aload_n (pc := 134) 0 (jd k_Mod_answer 86 rfl) rfl ?_
              refine j_iload_n (pc := 135) 1 (jd k_Mod_answer 87 rfl) rfl ?_
              refine j_iload_n (pc := 136) 2 (jd k_Mod_answer 88 rfl) rfl ?_
              obtain ⟨x42, h43, H⟩ := obnd H
              refine jc_V (pc := 137) (st := [.ref (ad 15), .int x4, .int x1, .int 3, .ref (ad 0)]) (c_Mod_at ad G x1 x4 s39 _ h43) L0_Mod_at w1364 w1366 w43 0 rfl rfl (jd k_Mod_answer 89 rfl) rfl (Nat.le_of_ble_eq_true rfl) (by decide) (Nat.le_refl _) (Nat.le_refl _) rfl rfl ?_
              obtain ⟨h44, H⟩ := ochk H
              refine j_iald (pc := 140) (f := s39 32) 15 (jd k_Mod_answer 90 rfl) rfl (jin.vp h44) ?_
              refine j_aload_n (pc := 141) 0 (jd k_Mod_answer 91 rfl) rfl ?_
              refine j_get (pc := 142) (fs := flR ad s39) (v := .ref (ad 16)) fl_Mod_55_10 0 (jd k_Mod_answer 92 rfl) rfl rfl ?_
              refine j_aload_n (pc := 145) 0 (jd k_Mod_answer 93 rfl) rfl ?_
              refine j_iload_n (pc := 146) 1 (jd k_Mod_answer 94 rfl) rfl ?_
              refine j_iload_n (pc := 147) 2 (jd k_Mod_answer 95 rfl) rfl ?_
              obtain ⟨x45, h46, H⟩ := obnd H
              refine jc_V (pc := 148) (st := [.ref (ad 16), .int (s39 32 x42.toNatClampNeg), .int x4, .int x1, .int 3, .ref (ad 0)]) (c_Mod_at ad G x1 x4 s39 _ h46) L0_Mod_at w1364 w1366 w43 0 rfl rfl (jd k_Mod_answer 96 rfl) rfl (Nat.le_of_ble_eq_true rfl) (by decide) (Nat.le_refl _) (Nat.le_refl _) rfl rfl ?_
              obtain ⟨h47, H⟩ := ochk H
              refine j_iald (pc := 151) (f := s39 33) 16 (jd k_Mod_answer 97 rfl) rfl (jin.vp h47) ?_
              obtain ⟨s48, h49, H⟩ := obnd H
              refine jc_V (pc := 152) (st := []) (c_Mod_showNumbers ad G 3 x1 x4 (s39 32 x42.toNatClampNeg) (s39 33 x45.toNatClampNeg) s39 _ h49) L0_Mod_showNumbers w1395 w1397 w50 0 rfl rfl (jd k_Mod_answer 98 rfl) rfl (Nat.le_of_ble_eq_true rfl) (by decide) (Nat.le_refl _) (Nat.le_refl _) rfl rfl ?_
              cases H
              exact K52
            have H := h29
            refine j_if_eq (pc := 94) (tgt := 101) (jd k_Mod_answer 60 rfl) rfl (fun h27 => ?_) (fun h27 => ?_)
            · rw [if_pos h27] at H
              refine j_iconst (pc := 101) (v := 0) (jd k_Mod_answer 63 rfl) (by decide) ?_
              cases H
              exact K30
            · rw [if_neg h27] at H
              refine j_iconst (pc := 97) (v := 1) (jd k_Mod_answer 61 rfl) (by decide) ?_
              refine j_goto (pc := 98) (tgt := 102) (jd k_Mod_answer 62 rfl) rfl ?_
              cases H
              exact K30
          · rw [if_neg (not_not_intro h16)] at H
            refine j_goto (pc := 53) (tgt := 155) (jd k_Mod_answer 31 rfl) rfl ?_
            cases H
            exact K52

set_option maxRecDepth 20000 in
theorem lp_Mod_answer_2 {ad : Nat → Nat} {G : jG} {P : jR → va_W → Prop} : ∀ (n : Nat) (x1 : Int32) (s2 : jS) (r : Int32 × jS), L_Mod_answer_2 n x1 s2 = some r → J G m_Mod_answer 3 0 0 P 167 [(0, .ref (ad 0)), (1, .int r.1)] [] (mkR ad G r.2) 0 0 → J G m_Mod_answer 3 0 0 P 2 [(0, .ref (ad 0)), (1, .int x1)] [] (mkR ad G s2) 0 0 := by
  intro n
  induction n with
  | zero =>
    intro x1 s2 r H
    cases (show none = some r from H)
  | succ n ih =>
    intro x1 s2 r H kx
    have H : (
    if (s2 11 0) < x1 then
      some (x1, s2)
    else
      Option.bind (L_Mod_answer_12 x1 jF 1 s2) fun (x55, s56) =>
      jlet (x1 + 1) fun x58 =>
      L_Mod_answer_2 n x58 s56) = some r := H
    refine j_iload_n (pc := 2) 1 (jd k_Mod_answer 2 rfl) rfl ?_
    refine j_aload_n (pc := 3) 0 (jd k_Mod_answer 3 rfl) rfl ?_
    refine j_get (pc := 4) (fs := flR ad s2) (v := .int (s2 11 0)) fl_Mod_207_10 0 (jd k_Mod_answer 4 rfl) rfl rfl ?_
    refine j_icmp_gt (pc := 7) (tgt := 167) (jd k_Mod_answer 5 rfl) rfl (fun h3 => ?_) (fun h3 => ?_)
    · rw [if_pos h3] at H
      cases H
      exact kx
    · rw [if_neg h3] at H
      refine j_iconst (pc := 10) (v := 1) (jd k_Mod_answer 6 rfl) (by decide) ?_
      refine j_istore_n (pc := 11) (lv' := [(0, .ref (ad 0)), (1, .int x1), (2, .int 1)]) (jd k_Mod_answer 7 rfl) rfl (Nat.le_of_ble_eq_true rfl) rfl ?_
      obtain ⟨⟨x55, s56⟩, h57, H⟩ := obnd H
      try dsimp only at H
      refine lp_Mod_answer_12 x1 jF 1 s2 _ h57 ?_
      refine j_pick (lv' := [(0, .ref (ad 0)), (1, .int x1)]) [0, 1] rfl ?_
      obtain ⟨x58, e59, H⟩ := olet H
      refine j_iinc (pc := 161) (lv' := [(0, .ref (ad 0)), (1, .int x58)]) 1 (jd k_Mod_answer 101 rfl) rfl e59 rfl (Nat.le_of_ble_eq_true rfl) rfl ?_
      refine j_goto (pc := 164) (tgt := 2) (jd k_Mod_answer 102 rfl) rfl ?_
      exact ih x58 s56 _ H kx

set_option maxRecDepth 20000 in
theorem c_Mod_answer (ad : Nat → Nat) (G : jG) (s : jS) (r : jS) (H : f_Mod_answer s = some r) : jCon G m_Mod_answer y_Mod_answer 3 0 0 [.ref (ad 0)] (mkR ad G s) (jEq none (mkR ad G r)) := by
  refine jCon.of (by decide +kernel) rfl rfl rfl (Nat.le_of_ble_eq_true rfl) rfl ?_
  have H : (
  Option.bind (L_Mod_answer_2 jF 1 s) fun (x60, s61) =>
  some s61) = some r := H
  generalize hP9 : jEq none (mkR ad G r) = P
  refine j_iconst (pc := 0) (v := 1) (jd k_Mod_answer 0 rfl) (by decide) ?_
  refine j_istore_n (pc := 1) (lv' := [(0, .ref (ad 0)), (1, .int 1)]) (jd k_Mod_answer 1 rfl) rfl (Nat.le_of_ble_eq_true rfl) rfl ?_
  obtain ⟨⟨x60, s61⟩, h62, H⟩ := obnd H
  try dsimp only at H
  refine lp_Mod_answer_2  jF 1 s _ h62 ?_
  refine j_pick (lv' := []) [] rfl ?_
  cases H
  subst hP9
  exact j_vret (pc := 167) (jd k_Mod_answer 103 rfl) rfl ⟨rfl, rfl⟩

set_option maxRecDepth 20000 in
theorem lp_Mod_bits_4 {G : jG} {P : jR → va_W → Prop} (ws : va_W) (p0 : Int32) : ∀ (n : Nat) (x1 : Int32) (x2 : Int32) (r : Int32 × Int32), L_Mod_bits_4 p0 n x1 x2 = some r → J G m_Mod_bits 1 0 0 P 32 [(0, .int p0), (1, .int r.1), (2, .int r.2)] [] ws 0 0 → J G m_Mod_bits 1 0 0 P 4 [(0, .int p0), (1, .int x1), (2, .int x2)] [] ws 0 0 := by
  intro n
  induction n with
  | zero =>
    intro x1 x2 r H
    cases (show none = some r from H)
  | succ n ih =>
    intro x1 x2 r H kx
    have H : (
    if 8 ≤ x2 then
      some (x1, x2)
    else
      Option.bind (f_Mod_in p0 x2) fun x4 =>
      Option.bind (α := Int32) (
        if x4 = 0 then
          some 0
        else
          some 1) fun x7 =>
      jlet (x1 + x7) fun x10 =>
      jlet (x2 + 1) fun x11 =>
      L_Mod_bits_4 p0 n x10 x11) = some r := H
    refine j_iload_n (pc := 4) 2 (jd k_Mod_bits 4 rfl) rfl ?_
    refine j_bipush (pc := 5) (v := 8) (jd k_Mod_bits 5 rfl) (by decide) ?_
    refine j_icmp_ge (pc := 7) (tgt := 32) (jd k_Mod_bits 6 rfl) rfl (fun h3 => ?_) (fun h3 => ?_)
    · rw [if_pos h3] at H
      cases H
      exact kx
    · rw [if_neg h3] at H
      refine j_iload_n (pc := 10) 1 (jd k_Mod_bits 7 rfl) rfl ?_
      refine j_iload_n (pc := 11) 0 (jd k_Mod_bits 8 rfl) rfl ?_
      refine j_iload_n (pc := 12) 2 (jd k_Mod_bits 9 rfl) rfl ?_
      obtain ⟨x4, h5, H⟩ := obnd H
      refine jc_S (pc := 13) (st := [.int x1]) (c_Mod_in G _ p0 x2 _ h5) L0_Mod_in w1384 w1385 (jd k_Mod_bits 10 rfl) rfl (Nat.le_of_ble_eq_true rfl) (by decide) (Nat.le_refl _) (Nat.le_refl _) rfl rfl ?_
      obtain ⟨x7, h8, H⟩ := obnd H
      have K9 : J G m_Mod_bits 1 0 0 P 24 [(0, .int p0), (2, .int x2)] [.int x7, .int x1] ws 0 0 := by
        refine j_iadd (pc := 24) (jd k_Mod_bits 15 rfl) ?_
        obtain ⟨x10, e13, H⟩ := olet H
        refine j_topi e13 ?_
        refine j_istore_n (pc := 25) (lv' := [(0, .int p0), (1, .int x10), (2, .int x2)]) (jd k_Mod_bits 16 rfl) rfl (Nat.le_of_ble_eq_true rfl) rfl ?_
        obtain ⟨x11, e12, H⟩ := olet H
        refine j_iinc (pc := 26) (lv' := [(0, .int p0), (1, .int x10), (2, .int x11)]) 2 (jd k_Mod_bits 17 rfl) rfl e12 rfl (Nat.le_of_ble_eq_true rfl) rfl ?_
        refine j_goto (pc := 29) (tgt := 4) (jd k_Mod_bits 18 rfl) rfl ?_
        exact ih x10 x11 _ H kx
      have H := h8
      refine j_if_eq (pc := 16) (tgt := 23) (jd k_Mod_bits 11 rfl) rfl (fun h6 => ?_) (fun h6 => ?_)
      · rw [if_pos h6] at H
        refine j_iconst (pc := 23) (v := 0) (jd k_Mod_bits 14 rfl) (by decide) ?_
        cases H
        exact j_pick [0, 2] rfl K9
      · rw [if_neg h6] at H
        refine j_iconst (pc := 19) (v := 1) (jd k_Mod_bits 12 rfl) (by decide) ?_
        refine j_goto (pc := 20) (tgt := 24) (jd k_Mod_bits 13 rfl) rfl ?_
        cases H
        exact j_pick [0, 2] rfl K9

set_option maxRecDepth 20000 in
theorem c_Mod_bits (G : jG) (ws : va_W) (p0 : Int32) (r : Int32) (H : f_Mod_bits p0 = some r) : jCon G m_Mod_bits y_Mod_bits 1 0 0 [.int p0] ws (jEq (some (.int r)) ws) := by
  refine jCon.of (by decide +kernel) rfl rfl rfl (Nat.le_of_ble_eq_true rfl) rfl ?_
  have H : (
  Option.bind (L_Mod_bits_4 p0 jF 0 1) fun (x14, x15) =>
  some x14) = some r := H
  generalize hP9 : jEq (some (.int r)) ws = P
  refine j_iconst (pc := 0) (v := 0) (jd k_Mod_bits 0 rfl) (by decide) ?_
  refine j_istore_n (pc := 1) (lv' := [(0, .int p0), (1, .int 0)]) (jd k_Mod_bits 1 rfl) rfl (Nat.le_of_ble_eq_true rfl) rfl ?_
  refine j_iconst (pc := 2) (v := 1) (jd k_Mod_bits 2 rfl) (by decide) ?_
  refine j_istore_n (pc := 3) (lv' := [(0, .int p0), (1, .int 0), (2, .int 1)]) (jd k_Mod_bits 3 rfl) rfl (Nat.le_of_ble_eq_true rfl) rfl ?_
  obtain ⟨⟨x14, x15⟩, h16, H⟩ := obnd H
  try dsimp only at H
  refine lp_Mod_bits_4 ws p0 jF 0 1 _ h16 ?_
  refine j_pick (lv' := [(1, .int x14)]) [1] rfl ?_
  refine j_iload_n (pc := 32) 0 (jd k_Mod_bits 19 rfl) rfl ?_
  cases H
  subst hP9
  exact j_iret (pc := 33) (jd k_Mod_bits 20 rfl) rfl rfl ⟨rfl, rfl⟩

set_option maxRecDepth 20000 in
theorem lp_Mod_judge_241 {ad : Nat → Nat} {G : jG} {P : jR → va_W → Prop} (x75 : Int32) : ∀ (n : Nat) (x84 : Int32) (s85 : jS) (r : Int32 × jS), L_Mod_judge_241 x75 n x84 s85 = some r → J G m_Mod_judge 2 0 0 P 335 [(0, .ref (ad 0)), (1, .int x75), (2, .int r.1)] [] (mkR ad G r.2) 0 0 → J G m_Mod_judge 2 0 0 P 241 [(0, .ref (ad 0)), (1, .int x75), (2, .int x84)] [] (mkR ad G s85) 0 0 := by
  intro n
  induction n with
  | zero =>
    intro x84 s85 r H
    cases (show none = some r from H)
  | succ n ih =>
    intro x84 s85 r H kx
    have H : (
    if (s85 11 0) < x84 then
      some (x84, s85)
    else
      Option.bind (f_Mod_in (s85 25 0) x84) fun x87 =>
      Option.bind (α := jS) (
        if ¬ x87 = 0 then
          if jin (x75 - 1) 7 then
          Option.bind (f_Mod_at x84 x75 s85) fun x91 =>
          if jin x91 49 then
          if ¬ (s85 10 0) = 0 then
          if jin (x75 - 1) 7 then
          jlet (va_up s85 36 (upd (s85 36) (x75 - 1).toNatClampNeg (jrem ((s85 36 (x75 - 1).toNatClampNeg) + (s85 30 x91.toNatClampNeg)) (s85 10 0)))) fun s95 =>
          if jin (x75 - 1) 7 then
          Option.bind (f_Mod_at x84 x75 s95) fun x99 =>
          if jin x99 49 then
          if ¬ (s95 10 0) = 0 then
          if jin (x75 - 1) 7 then
          jlet (va_up s95 37 (upd (s95 37) (x75 - 1).toNatClampNeg (jrem ((s95 37 (x75 - 1).toNatClampNeg) + (s95 31 x99.toNatClampNeg)) (s95 10 0)))) fun s103 =>
          some s103
          else none
          else none
          else none
          else none
          else none
          else none
          else none
          else none
        else
          some s85) fun s106 =>
      jlet (x84 + 1) fun x109 =>
      L_Mod_judge_241 x75 n x109 s106) = some r := H
    refine j_iload_n (pc := 241) 2 (jd k_Mod_judge 147 rfl) rfl ?_
    refine j_aload_n (pc := 242) 0 (jd k_Mod_judge 148 rfl) rfl ?_
    refine j_get (pc := 243) (fs := flR ad s85) (v := .int (s85 11 0)) fl_Mod_207_10 0 (jd k_Mod_judge 149 rfl) rfl rfl ?_
    refine j_icmp_gt (pc := 246) (tgt := 335) (jd k_Mod_judge 150 rfl) rfl (fun h86 => ?_) (fun h86 => ?_)
    · rw [if_pos h86] at H
      cases H
      exact kx
    · rw [if_neg h86] at H
      refine j_aload_n (pc := 249) 0 (jd k_Mod_judge 151 rfl) rfl ?_
      refine j_get (pc := 250) (fs := flR ad s85) (v := .int (s85 25 0)) fl_Mod_243_10 0 (jd k_Mod_judge 152 rfl) rfl rfl ?_
      refine j_iload_n (pc := 253) 2 (jd k_Mod_judge 153 rfl) rfl ?_
      obtain ⟨x87, h88, H⟩ := obnd H
      refine jc_S (pc := 254) (st := []) (c_Mod_in G _ (s85 25 0) x84 _ h88) L0_Mod_in w1384 w1385 (jd k_Mod_judge 154 rfl) rfl (Nat.le_of_ble_eq_true rfl) (by decide) (Nat.le_refl _) (Nat.le_refl _) rfl rfl ?_
      obtain ⟨s106, h107, H⟩ := obnd H
      have K108 : J G m_Mod_judge 2 0 0 P 329 [(0, .ref (ad 0)), (1, .int x75), (2, .int x84)] [] (mkR ad G s106) 0 0 := by
        obtain ⟨x109, e110, H⟩ := olet H
        refine j_iinc (pc := 329) (lv' := [(0, .ref (ad 0)), (1, .int x75), (2, .int x109)]) 2 (jd k_Mod_judge 203 rfl) rfl e110 rfl (Nat.le_of_ble_eq_true rfl) rfl ?_
        refine j_goto (pc := 332) (tgt := 241) (jd k_Mod_judge 204 rfl) rfl ?_
        exact ih x109 s106 _ H kx
      have H := h107
      refine j_if_ne (pc := 257) (tgt := 263) (jd k_Mod_judge 155 rfl) rfl (fun h89 => ?_) (fun h89 => ?_)
      · rw [if_pos h89] at H
        refine j_aload_n (pc := 263) 0 (jd k_Mod_judge 157 rfl) rfl ?_
        refine j_get (pc := 264) (fs := flR ad s85) (v := .ref (ad 19)) fl_Mod_64_10 0 (jd k_Mod_judge 158 rfl) rfl rfl ?_
        refine j_iload_n (pc := 267) 1 (jd k_Mod_judge 159 rfl) rfl ?_
        refine j_iconst (pc := 268) (v := 1) (jd k_Mod_judge 160 rfl) (by decide) ?_
        refine j_isub (pc := 269) (jd k_Mod_judge 161 rfl) ?_
        refine j_aload_n (pc := 270) 0 (jd k_Mod_judge 162 rfl) rfl ?_
        refine j_get (pc := 271) (fs := flR ad s85) (v := .ref (ad 19)) fl_Mod_64_10 0 (jd k_Mod_judge 163 rfl) rfl rfl ?_
        refine j_iload_n (pc := 274) 1 (jd k_Mod_judge 164 rfl) rfl ?_
        refine j_iconst (pc := 275) (v := 1) (jd k_Mod_judge 165 rfl) (by decide) ?_
        refine j_isub (pc := 276) (jd k_Mod_judge 166 rfl) ?_
        obtain ⟨h90, H⟩ := ochk H
        refine j_iald (pc := 277) (f := s85 36) 19 (jd k_Mod_judge 167 rfl) rfl (jin.vp h90) ?_
        refine j_aload_n (pc := 278) 0 (jd k_Mod_judge 168 rfl) rfl ?_
        refine j_get (pc := 279) (fs := flR ad s85) (v := .ref (ad 13)) fl_Mod_46_10 0 (jd k_Mod_judge 169 rfl) rfl rfl ?_
        refine j_aload_n (pc := 282) 0 (jd k_Mod_judge 170 rfl) rfl ?_
        refine j_iload_n (pc := 283) 2 (jd k_Mod_judge 171 rfl) rfl ?_
        refine j_iload_n (pc := 284) 1 (jd k_Mod_judge 172 rfl) rfl ?_
        obtain ⟨x91, h92, H⟩ := obnd H
        refine jc_V (pc := 285) (st := [.ref (ad 13), .int (s85 36 (x75 - 1).toNatClampNeg), .int (x75 - 1), .ref (ad 19)]) (c_Mod_at ad G x84 x75 s85 _ h92) L0_Mod_at w1364 w1366 w43 0 rfl rfl (jd k_Mod_judge 173 rfl) rfl (Nat.le_of_ble_eq_true rfl) (by decide) (Nat.le_refl _) (Nat.le_refl _) rfl rfl ?_
        obtain ⟨h93, H⟩ := ochk H
        refine j_iald (pc := 288) (f := s85 30) 13 (jd k_Mod_judge 174 rfl) rfl (jin.vp h93) ?_
        refine j_iadd (pc := 289) (jd k_Mod_judge 175 rfl) ?_
        refine j_aload_n (pc := 290) 0 (jd k_Mod_judge 176 rfl) rfl ?_
        refine j_get (pc := 291) (fs := flR ad s85) (v := .int (s85 10 0)) fl_Mod_213_10 0 (jd k_Mod_judge 177 rfl) rfl rfl ?_
        obtain ⟨h94, H⟩ := ochk H
        refine j_irem (pc := 294) (jd k_Mod_judge 178 rfl) h94 ?_
        obtain ⟨h97, H⟩ := ochk H
        obtain ⟨s95, e96, H⟩ := olet H
        refine j_iast (pc := 295) (f := s85 36) 19 (jd k_Mod_judge 179 rfl) rfl (jin.vp h97) ((waR_36 ad G s85 _).trans (congrArg (mkR ad G) e96)) ?_
        refine j_aload_n (pc := 296) 0 (jd k_Mod_judge 180 rfl) rfl ?_
        refine j_get (pc := 297) (fs := flR ad s95) (v := .ref (ad 20)) fl_Mod_67_10 0 (jd k_Mod_judge 181 rfl) rfl rfl ?_
        refine j_iload_n (pc := 300) 1 (jd k_Mod_judge 182 rfl) rfl ?_
        refine j_iconst (pc := 301) (v := 1) (jd k_Mod_judge 183 rfl) (by decide) ?_
        refine j_isub (pc := 302) (jd k_Mod_judge 184 rfl) ?_
        refine j_aload_n (pc := 303) 0 (jd k_Mod_judge 185 rfl) rfl ?_
        refine j_get (pc := 304) (fs := flR ad s95) (v := .ref (ad 20)) fl_Mod_67_10 0 (jd k_Mod_judge 186 rfl) rfl rfl ?_
        refine j_iload_n (pc := 307) 1 (jd k_Mod_judge 187 rfl) rfl ?_
        refine j_iconst (pc := 308) (v := 1) (jd k_Mod_judge 188 rfl) (by decide) ?_
        refine j_isub (pc := 309) (jd k_Mod_judge 189 rfl) ?_
        obtain ⟨h98, H⟩ := ochk H
        refine j_iald (pc := 310) (f := s95 37) 20 (jd k_Mod_judge 190 rfl) rfl (jin.vp h98) ?_
        refine j_aload_n (pc := 311) 0 (jd k_Mod_judge 191 rfl) rfl ?_
        refine j_get (pc := 312) (fs := flR ad s95) (v := .ref (ad 14)) fl_Mod_49_10 0 (jd k_Mod_judge 192 rfl) rfl rfl ?_
        refine j_aload_n (pc := 315) 0 (jd k_Mod_judge 193 rfl) rfl ?_
        refine j_iload_n (pc := 316) 2 (jd k_Mod_judge 194 rfl) rfl ?_
        refine j_iload_n (pc := 317) 1 (jd k_Mod_judge 195 rfl) rfl ?_
        obtain ⟨x99, h100, H⟩ := obnd H
        refine jc_V (pc := 318) (st := [.ref (ad 14), .int (s95 37 (x75 - 1).toNatClampNeg), .int (x75 - 1), .ref (ad 20)]) (c_Mod_at ad G x84 x75 s95 _ h100) L0_Mod_at w1364 w1366 w43 0 rfl rfl (jd k_Mod_judge 196 rfl) rfl (Nat.le_of_ble_eq_true rfl) (by decide) (Nat.le_refl _) (Nat.le_refl _) rfl rfl ?_
        obtain ⟨h101, H⟩ := ochk H
        refine j_iald (pc := 321) (f := s95 31) 14 (jd k_Mod_judge 197 rfl) rfl (jin.vp h101) ?_
        refine j_iadd (pc := 322) (jd k_Mod_judge 198 rfl) ?_
        refine j_aload_n (pc := 323) 0 (jd k_Mod_judge 199 rfl) rfl ?_
        refine j_get (pc := 324) (fs := flR ad s95) (v := .int (s95 10 0)) fl_Mod_213_10 0 (jd k_Mod_judge 200 rfl) rfl rfl ?_
        obtain ⟨h102, H⟩ := ochk H
        refine j_irem (pc := 327) (jd k_Mod_judge 201 rfl) h102 ?_
        obtain ⟨h105, H⟩ := ochk H
        obtain ⟨s103, e104, H⟩ := olet H
        refine j_iast (pc := 328) (f := s95 37) 20 (jd k_Mod_judge 202 rfl) rfl (jin.vp h105) ((waR_37 ad G s95 _).trans (congrArg (mkR ad G) e104)) ?_
        cases H
        exact K108
      · rw [if_neg (not_not_intro h89)] at H
        refine j_goto (pc := 260) (tgt := 329) (jd k_Mod_judge 156 rfl) rfl ?_
        cases H
        exact K108

set_option maxRecDepth 20000 in
theorem lp_Mod_judge_213 {ad : Nat → Nat} {G : jG} {P : jR → va_W → Prop} : ∀ (n : Nat) (x75 : Int32) (s76 : jS) (r : Int32 × jS), L_Mod_judge_213 n x75 s76 = some r → J G m_Mod_judge 2 0 0 P 341 [(0, .ref (ad 0)), (1, .int r.1)] [] (mkR ad G r.2) 0 0 → J G m_Mod_judge 2 0 0 P 213 [(0, .ref (ad 0)), (1, .int x75)] [] (mkR ad G s76) 0 0 := by
  intro n
  induction n with
  | zero =>
    intro x75 s76 r H
    cases (show none = some r from H)
  | succ n ih =>
    intro x75 s76 r H kx
    have H : (
    if (s76 11 0) < x75 then
      some (x75, s76)
    else
      if jin (x75 - 1) 7 then
      jlet (va_up s76 36 (upd (s76 36) (x75 - 1).toNatClampNeg 0)) fun s78 =>
      if jin (x75 - 1) 7 then
      jlet (va_up s78 37 (upd (s78 37) (x75 - 1).toNatClampNeg 0)) fun s81 =>
      Option.bind (L_Mod_judge_241 x75 jF 1 s81) fun (x111, s112) =>
      jlet (x75 + 1) fun x114 =>
      L_Mod_judge_213 n x114 s112
      else none
      else none) = some r := H
    refine j_iload_n (pc := 213) 1 (jd k_Mod_judge 127 rfl) rfl ?_
    refine j_aload_n (pc := 214) 0 (jd k_Mod_judge 128 rfl) rfl ?_
    refine j_get (pc := 215) (fs := flR ad s76) (v := .int (s76 11 0)) fl_Mod_207_10 0 (jd k_Mod_judge 129 rfl) rfl rfl ?_
    refine j_icmp_gt (pc := 218) (tgt := 341) (jd k_Mod_judge 130 rfl) rfl (fun h77 => ?_) (fun h77 => ?_)
    · rw [if_pos h77] at H
      cases H
      exact kx
    · rw [if_neg h77] at H
      refine j_aload_n (pc := 221) 0 (jd k_Mod_judge 131 rfl) rfl ?_
      refine j_get (pc := 222) (fs := flR ad s76) (v := .ref (ad 19)) fl_Mod_64_10 0 (jd k_Mod_judge 132 rfl) rfl rfl ?_
      refine j_iload_n (pc := 225) 1 (jd k_Mod_judge 133 rfl) rfl ?_
      refine j_iconst (pc := 226) (v := 1) (jd k_Mod_judge 134 rfl) (by decide) ?_
      refine j_isub (pc := 227) (jd k_Mod_judge 135 rfl) ?_
      refine j_iconst (pc := 228) (v := 0) (jd k_Mod_judge 136 rfl) (by decide) ?_
      obtain ⟨h80, H⟩ := ochk H
      obtain ⟨s78, e79, H⟩ := olet H
      refine j_iast (pc := 229) (f := s76 36) 19 (jd k_Mod_judge 137 rfl) rfl (jin.vp h80) ((waR_36 ad G s76 _).trans (congrArg (mkR ad G) e79)) ?_
      refine j_aload_n (pc := 230) 0 (jd k_Mod_judge 138 rfl) rfl ?_
      refine j_get (pc := 231) (fs := flR ad s78) (v := .ref (ad 20)) fl_Mod_67_10 0 (jd k_Mod_judge 139 rfl) rfl rfl ?_
      refine j_iload_n (pc := 234) 1 (jd k_Mod_judge 140 rfl) rfl ?_
      refine j_iconst (pc := 235) (v := 1) (jd k_Mod_judge 141 rfl) (by decide) ?_
      refine j_isub (pc := 236) (jd k_Mod_judge 142 rfl) ?_
      refine j_iconst (pc := 237) (v := 0) (jd k_Mod_judge 143 rfl) (by decide) ?_
      obtain ⟨h83, H⟩ := ochk H
      obtain ⟨s81, e82, H⟩ := olet H
      refine j_iast (pc := 238) (f := s78 37) 20 (jd k_Mod_judge 144 rfl) rfl (jin.vp h83) ((waR_37 ad G s78 _).trans (congrArg (mkR ad G) e82)) ?_
      refine j_iconst (pc := 239) (v := 1) (jd k_Mod_judge 145 rfl) (by decide) ?_
      refine j_istore_n (pc := 240) (lv' := [(0, .ref (ad 0)), (1, .int x75), (2, .int 1)]) (jd k_Mod_judge 146 rfl) rfl (Nat.le_of_ble_eq_true rfl) rfl ?_
      obtain ⟨⟨x111, s112⟩, h113, H⟩ := obnd H
      try dsimp only at H
      refine lp_Mod_judge_241 x75 jF 1 s81 _ h113 ?_
      refine j_pick (lv' := [(0, .ref (ad 0)), (1, .int x75)]) [0, 1] rfl ?_
      obtain ⟨x114, e115, H⟩ := olet H
      refine j_iinc (pc := 335) (lv' := [(0, .ref (ad 0)), (1, .int x114)]) 1 (jd k_Mod_judge 205 rfl) rfl e115 rfl (Nat.le_of_ble_eq_true rfl) rfl ?_
      refine j_goto (pc := 338) (tgt := 213) (jd k_Mod_judge 206 rfl) rfl ?_
      exact ih x114 s112 _ H kx

set_option maxRecDepth 20000 in
theorem lp_Mod_judge_66 {ad : Nat → Nat} {G : jG} {P : jR → va_W → Prop} (x1 : Int32) : ∀ (n : Nat) (x17 : Int32) (x18 : Int32) (s19 : jS) (r : Int32 × Int32 × jS), L_Mod_judge_66 x1 n x17 x18 s19 = some r → J G m_Mod_judge 2 0 0 P 183 [(0, .ref (ad 0)), (1, .int x1), (2, .int r.1), (3, .int r.2.1)] [] (mkR ad G r.2.2) 0 0 → J G m_Mod_judge 2 0 0 P 66 [(0, .ref (ad 0)), (1, .int x1), (2, .int x17), (3, .int x18)] [] (mkR ad G s19) 0 0 := by
  intro n
  induction n with
  | zero =>
    intro x17 x18 s19 r H
    cases (show none = some r from H)
  | succ n ih =>
    intro x17 x18 s19 r H kx
    have H : (
    if (s19 11 0) < x18 then
      some (x17, x18, s19)
    else
      if jin (x1 - 1) 7 then
      Option.bind (f_Mod_in (s19 29 (x1 - 1).toNatClampNeg) x18) fun x22 =>
      Option.bind (α := Int32 × jS) (
        if ¬ x22 = 0 then
          Option.bind (α := Int32) (
            if x17 = 0 then
              some 0
            else
              Option.bind (f_Mod_at x1 x18 s19) fun x26 =>
              if jin x26 49 then
              Option.bind (f_Mod_at x1 x18 s19) fun x29 =>
              if jin x29 49 then
              Option.bind (f_Mod_fits x1 x18 (s19 32 x26.toNatClampNeg) (s19 33 x29.toNatClampNeg) s19) fun x32 =>
              if x32 = 0 then
                some 0
              else
                some 1
              else none
              else none) fun x35 =>
          Option.bind (f_Mod_at x1 x18 s19) fun x38 =>
          Option.bind (f_Mod_at x1 x18 s19) fun x40 =>
          if jin x40 49 then
          if jin x38 49 then
          jlet (va_up s19 30 (upd (s19 30) x38.toNatClampNeg (s19 32 x40.toNatClampNeg))) fun s43 =>
          Option.bind (f_Mod_at x1 x18 s43) fun x46 =>
          Option.bind (f_Mod_at x1 x18 s43) fun x48 =>
          if jin x48 49 then
          if jin x46 49 then
          jlet (va_up s43 31 (upd (s43 31) x46.toNatClampNeg (s43 33 x48.toNatClampNeg))) fun s51 =>
          some (x35, s51)
          else none
          else none
          else none
          else none
        else
          some (x17, s19)) fun (x54, s55) =>
      jlet (x18 + 1) fun x58 =>
      L_Mod_judge_66 x1 n x54 x58 s55
      else none) = some r := H
    refine j_iload_n (pc := 66) 3 (jd k_Mod_judge 40 rfl) rfl ?_
    refine j_aload_n (pc := 67) 0 (jd k_Mod_judge 41 rfl) rfl ?_
    refine j_get (pc := 68) (fs := flR ad s19) (v := .int (s19 11 0)) fl_Mod_207_10 0 (jd k_Mod_judge 42 rfl) rfl rfl ?_
    refine j_icmp_gt (pc := 71) (tgt := 183) (jd k_Mod_judge 43 rfl) rfl (fun h20 => ?_) (fun h20 => ?_)
    · rw [if_pos h20] at H
      cases H
      exact kx
    · rw [if_neg h20] at H
      refine j_aload_n (pc := 74) 0 (jd k_Mod_judge 44 rfl) rfl ?_
      refine j_get (pc := 75) (fs := flR ad s19) (v := .ref (ad 12)) fl_Mod_43_10 0 (jd k_Mod_judge 45 rfl) rfl rfl ?_
      refine j_iload_n (pc := 78) 1 (jd k_Mod_judge 46 rfl) rfl ?_
      refine j_iconst (pc := 79) (v := 1) (jd k_Mod_judge 47 rfl) (by decide) ?_
      refine j_isub (pc := 80) (jd k_Mod_judge 48 rfl) ?_
      obtain ⟨h21, H⟩ := ochk H
      refine j_iald (pc := 81) (f := s19 29) 12 (jd k_Mod_judge 49 rfl) rfl (jin.vp h21) ?_
      refine j_iload_n (pc := 82) 3 (jd k_Mod_judge 50 rfl) rfl ?_
      obtain ⟨x22, h23, H⟩ := obnd H
      refine jc_S (pc := 83) (st := []) (c_Mod_in G _ (s19 29 (x1 - 1).toNatClampNeg) x18 _ h23) L0_Mod_in w1384 w1385 (jd k_Mod_judge 51 rfl) rfl (Nat.le_of_ble_eq_true rfl) (by decide) (Nat.le_refl _) (Nat.le_refl _) rfl rfl ?_
      obtain ⟨⟨x54, s55⟩, h56, H⟩ := obnd H
      try dsimp only at H
      have K57 : J G m_Mod_judge 2 0 0 P 177 [(0, .ref (ad 0)), (1, .int x1), (2, .int x54), (3, .int x18)] [] (mkR ad G s55) 0 0 := by
        obtain ⟨x58, e59, H⟩ := olet H
        refine j_iinc (pc := 177) (lv' := [(0, .ref (ad 0)), (1, .int x1), (2, .int x54), (3, .int x58)]) 3 (jd k_Mod_judge 107 rfl) rfl e59 rfl (Nat.le_of_ble_eq_true rfl) rfl ?_
        refine j_goto (pc := 180) (tgt := 66) (jd k_Mod_judge 108 rfl) rfl ?_
        exact ih x54 x58 s55 _ H kx
      have H := h56
      refine j_if_ne (pc := 86) (tgt := 92) (jd k_Mod_judge 52 rfl) rfl (fun h24 => ?_) (fun h24 => ?_)
      · rw [if_pos h24] at H
        refine j_iload_n (pc := 92) 2 (jd k_Mod_judge 54 rfl) rfl ?_
        obtain ⟨x35, h36, H⟩ := obnd H
        have K37 : J G m_Mod_judge 2 0 0 P 132 [(0, .ref (ad 0)), (1, .int x1), (3, .int x18)] [.int x35] (mkR ad G s19) 0 0 := by
          refine j_istore_n (pc := 132) (lv' := [(0, .ref (ad 0)), (1, .int x1), (2, .int x35), (3, .int x18)]) (jd k_Mod_judge 78 rfl) rfl (Nat.le_of_ble_eq_true rfl) rfl ?_
          refine j_aload_n (pc := 133) 0 (jd k_Mod_judge 79 rfl) rfl ?_
          refine j_get (pc := 134) (fs := flR ad s19) (v := .ref (ad 13)) fl_Mod_46_10 0 (jd k_Mod_judge 80 rfl) rfl rfl ?_
          refine j_aload_n (pc := 137) 0 (jd k_Mod_judge 81 rfl) rfl ?_
          refine j_iload_n (pc := 138) 1 (jd k_Mod_judge 82 rfl) rfl ?_
          refine j_iload_n (pc := 139) 3 (jd k_Mod_judge 83 rfl) rfl ?_
          obtain ⟨x38, h39, H⟩ := obnd H
          refine jc_V (pc := 140) (st := [.ref (ad 13)]) (c_Mod_at ad G x1 x18 s19 _ h39) L0_Mod_at w1364 w1366 w43 0 rfl rfl (jd k_Mod_judge 84 rfl) rfl (Nat.le_of_ble_eq_true rfl) (by decide) (Nat.le_refl _) (Nat.le_refl _) rfl rfl ?_
          refine j_aload_n (pc := 143) 0 (jd k_Mod_judge 85 rfl) rfl ?_
          refine j_get (pc := 144) (fs := flR ad s19) (v := .ref (ad 15)) fl_Mod_52_10 0 (jd k_Mod_judge 86 rfl) rfl rfl ?_
          refine j_aload_n (pc := 147) 0 (jd k_Mod_judge 87 rfl) rfl ?_
          refine j_iload_n (pc := 148) 1 (jd k_Mod_judge 88 rfl) rfl ?_
          refine j_iload_n (pc := 149) 3 (jd k_Mod_judge 89 rfl) rfl ?_
          obtain ⟨x40, h41, H⟩ := obnd H
          refine jc_V (pc := 150) (st := [.ref (ad 15), .int x38, .ref (ad 13)]) (c_Mod_at ad G x1 x18 s19 _ h41) L0_Mod_at w1364 w1366 w43 0 rfl rfl (jd k_Mod_judge 90 rfl) rfl (Nat.le_of_ble_eq_true rfl) (by decide) (Nat.le_refl _) (Nat.le_refl _) rfl rfl ?_
          obtain ⟨h42, H⟩ := ochk H
          refine j_iald (pc := 153) (f := s19 32) 15 (jd k_Mod_judge 91 rfl) rfl (jin.vp h42) ?_
          obtain ⟨h45, H⟩ := ochk H
          obtain ⟨s43, e44, H⟩ := olet H
          refine j_iast (pc := 154) (f := s19 30) 13 (jd k_Mod_judge 92 rfl) rfl (jin.vp h45) ((waR_30 ad G s19 _).trans (congrArg (mkR ad G) e44)) ?_
          refine j_aload_n (pc := 155) 0 (jd k_Mod_judge 93 rfl) rfl ?_
          refine j_get (pc := 156) (fs := flR ad s43) (v := .ref (ad 14)) fl_Mod_49_10 0 (jd k_Mod_judge 94 rfl) rfl rfl ?_
          refine j_aload_n (pc := 159) 0 (jd k_Mod_judge 95 rfl) rfl ?_
          refine j_iload_n (pc := 160) 1 (jd k_Mod_judge 96 rfl) rfl ?_
          refine j_iload_n (pc := 161) 3 (jd k_Mod_judge 97 rfl) rfl ?_
          obtain ⟨x46, h47, H⟩ := obnd H
          refine jc_V (pc := 162) (st := [.ref (ad 14)]) (c_Mod_at ad G x1 x18 s43 _ h47) L0_Mod_at w1364 w1366 w43 0 rfl rfl (jd k_Mod_judge 98 rfl) rfl (Nat.le_of_ble_eq_true rfl) (by decide) (Nat.le_refl _) (Nat.le_refl _) rfl rfl ?_
          refine j_aload_n (pc := 165) 0 (jd k_Mod_judge 99 rfl) rfl ?_
          refine j_get (pc := 166) (fs := flR ad s43) (v := .ref (ad 16)) fl_Mod_55_10 0 (jd k_Mod_judge 100 rfl) rfl rfl ?_
          refine j_aload_n (pc := 169) 0 (jd k_Mod_judge 101 rfl) rfl ?_
          refine j_iload_n (pc := 170) 1 (jd k_Mod_judge 102 rfl) rfl ?_
          refine j_iload_n (pc := 171) 3 (jd k_Mod_judge 103 rfl) rfl ?_
          obtain ⟨x48, h49, H⟩ := obnd H
          refine jc_V (pc := 172) (st := [.ref (ad 16), .int x46, .ref (ad 14)]) (c_Mod_at ad G x1 x18 s43 _ h49) L0_Mod_at w1364 w1366 w43 0 rfl rfl (jd k_Mod_judge 104 rfl) rfl (Nat.le_of_ble_eq_true rfl) (by decide) (Nat.le_refl _) (Nat.le_refl _) rfl rfl ?_
          obtain ⟨h50, H⟩ := ochk H
          refine j_iald (pc := 175) (f := s43 33) 16 (jd k_Mod_judge 105 rfl) rfl (jin.vp h50) ?_
          obtain ⟨h53, H⟩ := ochk H
          obtain ⟨s51, e52, H⟩ := olet H
          refine j_iast (pc := 176) (f := s43 31) 14 (jd k_Mod_judge 106 rfl) rfl (jin.vp h53) ((waR_31 ad G s43 _).trans (congrArg (mkR ad G) e52)) ?_
          cases H
          exact K57
        have H := h36
        refine j_if_eq (pc := 93) (tgt := 131) (jd k_Mod_judge 55 rfl) rfl (fun h25 => ?_) (fun h25 => ?_)
        · rw [if_pos h25] at H
          refine j_iconst (pc := 131) (v := 0) (jd k_Mod_judge 77 rfl) (by decide) ?_
          cases H
          exact j_pick [0, 1, 3] rfl K37
        · rw [if_neg h25] at H
          refine j_aload_n (pc := 96) 0 (jd k_Mod_judge 56 rfl) rfl ?_
          refine j_iload_n (pc := 97) 1 (jd k_Mod_judge 57 rfl) rfl ?_
          refine j_iload_n (pc := 98) 3 (jd k_Mod_judge 58 rfl) rfl ?_
          refine j_aload_n (pc := 99) 0 (jd k_Mod_judge 59 rfl) rfl ?_
          refine j_get (pc := 100) (fs := flR ad s19) (v := .ref (ad 15)) fl_Mod_52_10 0 (jd k_Mod_judge 60 rfl) rfl rfl ?_
          refine j_aload_n (pc := 103) 0 (jd k_Mod_judge 61 rfl) rfl ?_
          refine j_iload_n (pc := 104) 1 (jd k_Mod_judge 62 rfl) rfl ?_
          refine j_iload_n (pc := 105) 3 (jd k_Mod_judge 63 rfl) rfl ?_
          obtain ⟨x26, h27, H⟩ := obnd H
          refine jc_V (pc := 106) (st := [.ref (ad 15), .int x18, .int x1, .ref (ad 0)]) (c_Mod_at ad G x1 x18 s19 _ h27) L0_Mod_at w1364 w1366 w43 0 rfl rfl (jd k_Mod_judge 64 rfl) rfl (Nat.le_of_ble_eq_true rfl) (by decide) (Nat.le_refl _) (Nat.le_refl _) rfl rfl ?_
          obtain ⟨h28, H⟩ := ochk H
          refine j_iald (pc := 109) (f := s19 32) 15 (jd k_Mod_judge 65 rfl) rfl (jin.vp h28) ?_
          refine j_aload_n (pc := 110) 0 (jd k_Mod_judge 66 rfl) rfl ?_
          refine j_get (pc := 111) (fs := flR ad s19) (v := .ref (ad 16)) fl_Mod_55_10 0 (jd k_Mod_judge 67 rfl) rfl rfl ?_
          refine j_aload_n (pc := 114) 0 (jd k_Mod_judge 68 rfl) rfl ?_
          refine j_iload_n (pc := 115) 1 (jd k_Mod_judge 69 rfl) rfl ?_
          refine j_iload_n (pc := 116) 3 (jd k_Mod_judge 70 rfl) rfl ?_
          obtain ⟨x29, h30, H⟩ := obnd H
          refine jc_V (pc := 117) (st := [.ref (ad 16), .int (s19 32 x26.toNatClampNeg), .int x18, .int x1, .ref (ad 0)]) (c_Mod_at ad G x1 x18 s19 _ h30) L0_Mod_at w1364 w1366 w43 0 rfl rfl (jd k_Mod_judge 71 rfl) rfl (Nat.le_of_ble_eq_true rfl) (by decide) (Nat.le_refl _) (Nat.le_refl _) rfl rfl ?_
          obtain ⟨h31, H⟩ := ochk H
          refine j_iald (pc := 120) (f := s19 33) 16 (jd k_Mod_judge 72 rfl) rfl (jin.vp h31) ?_
          obtain ⟨x32, h33, H⟩ := obnd H
          refine jc_V (pc := 121) (st := []) (c_Mod_fits ad G x1 x18 (s19 32 x26.toNatClampNeg) (s19 33 x29.toNatClampNeg) s19 _ h33) L0_Mod_fits w1387 w1389 w48 0 rfl rfl (jd k_Mod_judge 73 rfl) rfl (Nat.le_of_ble_eq_true rfl) (by decide) (Nat.le_refl _) (Nat.le_refl _) rfl rfl ?_
          refine j_if_eq (pc := 124) (tgt := 131) (jd k_Mod_judge 74 rfl) rfl (fun h34 => ?_) (fun h34 => ?_)
          · rw [if_pos h34] at H
            refine j_iconst (pc := 131) (v := 0) (jd k_Mod_judge 77 rfl) (by decide) ?_
            cases H
            exact j_pick [0, 1, 3] rfl K37
          · rw [if_neg h34] at H
            refine j_iconst (pc := 127) (v := 1) (jd k_Mod_judge 75 rfl) (by decide) ?_
            refine j_goto (pc := 128) (tgt := 132) (jd k_Mod_judge 76 rfl) rfl ?_
            cases H
            exact j_pick [0, 1, 3] rfl K37
      · rw [if_neg (not_not_intro h24)] at H
        refine j_goto (pc := 89) (tgt := 177) (jd k_Mod_judge 53 rfl) rfl ?_
        cases H
        exact K57

set_option maxRecDepth 20000 in
theorem lp_Mod_judge_2 {ad : Nat → Nat} {G : jG} {P : jR → va_W → Prop} : ∀ (n : Nat) (x1 : Int32) (s2 : jS) (r : Int32 × jS), L_Mod_judge_2 n x1 s2 = some r → J G m_Mod_judge 2 0 0 P 211 [(0, .ref (ad 0)), (1, .int r.1)] [] (mkR ad G r.2) 0 0 → J G m_Mod_judge 2 0 0 P 2 [(0, .ref (ad 0)), (1, .int x1)] [] (mkR ad G s2) 0 0 := by
  intro n
  induction n with
  | zero =>
    intro x1 s2 r H
    cases (show none = some r from H)
  | succ n ih =>
    intro x1 s2 r H kx
    have H : (
    if (s2 11 0) < x1 then
      some (x1, s2)
    else
      Option.bind (f_Mod_in (s2 23 0) x1) fun x4 =>
      Option.bind (α := Int32) (
        if x4 = 0 then
          some 0
        else
          if jin (x1 - 1) 7 then
          Option.bind (f_Mod_bits (s2 28 (x1 - 1).toNatClampNeg)) fun x8 =>
          if (s2 12 0) ≤ x8 then
            some 0
          else
            if jin (x1 - 1) 7 then
            if jin (x1 - 1) 7 then
            if ¬ (s2 29 (x1 - 1).toNatClampNeg) = (s2 28 (x1 - 1).toNatClampNeg) then
              some 0
            else
              some 1
            else none
            else none
          else none) fun x14 =>
      Option.bind (L_Mod_judge_66 x1 jF x14 1 s2) fun (x60, x61, s62) =>
      Option.bind (α := Int32) (
        if x60 = 0 then
          some 0
        else
          some (1 <<< ((x1 - 1) &&& 31))) fun x65 =>
      jlet (va_up s62 25 (fun _ => (s62 25 0) ||| x65)) fun s68 =>
      jlet (x1 + 1) fun x70 =>
      L_Mod_judge_2 n x70 s68) = some r := H
    refine j_iload_n (pc := 2) 1 (jd k_Mod_judge 2 rfl) rfl ?_
    refine j_aload_n (pc := 3) 0 (jd k_Mod_judge 3 rfl) rfl ?_
    refine j_get (pc := 4) (fs := flR ad s2) (v := .int (s2 11 0)) fl_Mod_207_10 0 (jd k_Mod_judge 4 rfl) rfl rfl ?_
    refine j_icmp_gt (pc := 7) (tgt := 211) (jd k_Mod_judge 5 rfl) rfl (fun h3 => ?_) (fun h3 => ?_)
    · rw [if_pos h3] at H
      cases H
      exact kx
    · rw [if_neg h3] at H
      refine j_aload_n (pc := 10) 0 (jd k_Mod_judge 6 rfl) rfl ?_
      refine j_get (pc := 11) (fs := flR ad s2) (v := .int (s2 23 0)) fl_Mod_237_10 0 (jd k_Mod_judge 7 rfl) rfl rfl ?_
      refine j_iload_n (pc := 14) 1 (jd k_Mod_judge 8 rfl) rfl ?_
      obtain ⟨x4, h5, H⟩ := obnd H
      refine jc_S (pc := 15) (st := []) (c_Mod_in G _ (s2 23 0) x1 _ h5) L0_Mod_in w1384 w1385 (jd k_Mod_judge 9 rfl) rfl (Nat.le_of_ble_eq_true rfl) (by decide) (Nat.le_refl _) (Nat.le_refl _) rfl rfl ?_
      obtain ⟨x14, h15, H⟩ := obnd H
      have K16 : J G m_Mod_judge 2 0 0 P 63 [(0, .ref (ad 0)), (1, .int x1)] [.int x14] (mkR ad G s2) 0 0 := by
        refine j_istore_n (pc := 63) (lv' := [(0, .ref (ad 0)), (1, .int x1), (2, .int x14)]) (jd k_Mod_judge 37 rfl) rfl (Nat.le_of_ble_eq_true rfl) rfl ?_
        refine j_iconst (pc := 64) (v := 1) (jd k_Mod_judge 38 rfl) (by decide) ?_
        refine j_istore_n (pc := 65) (lv' := [(0, .ref (ad 0)), (1, .int x1), (2, .int x14), (3, .int 1)]) (jd k_Mod_judge 39 rfl) rfl (Nat.le_of_ble_eq_true rfl) rfl ?_
        obtain ⟨⟨x60, x61, s62⟩, h63, H⟩ := obnd H
        try dsimp only at H
        refine lp_Mod_judge_66 x1 jF x14 1 s2 _ h63 ?_
        refine j_pick (lv' := [(0, .ref (ad 0)), (1, .int x1), (2, .int x60)]) [0, 1, 2] rfl ?_
        refine j_aload_n (pc := 183) 0 (jd k_Mod_judge 109 rfl) rfl ?_
        refine j_dup (pc := 184) (jd k_Mod_judge 110 rfl) rfl ?_
        refine j_get (pc := 185) (fs := flR ad s62) (v := .int (s62 25 0)) fl_Mod_243_10 0 (jd k_Mod_judge 111 rfl) rfl rfl ?_
        refine j_iload_n (pc := 188) 2 (jd k_Mod_judge 112 rfl) rfl ?_
        obtain ⟨x65, h66, H⟩ := obnd H
        have K67 : J G m_Mod_judge 2 0 0 P 201 [(0, .ref (ad 0)), (1, .int x1)] [.int x65, .int (s62 25 0), .ref (ad 0)] (mkR ad G s62) 0 0 := by
          refine j_ior (pc := 201) (jd k_Mod_judge 121 rfl) ?_
          obtain ⟨s68, e69, H⟩ := olet H
          refine j_put (pc := 202) (fs := flR ad s62) (fp_Mod_243_10 _) 0 (jd k_Mod_judge 122 rfl) rfl rfl rfl (Nat.le_of_ble_eq_true rfl) ((wpR_25 ad G s62 _).trans (congrArg (mkR ad G) e69)) ?_
          obtain ⟨x70, e71, H⟩ := olet H
          refine j_iinc (pc := 205) (lv' := [(0, .ref (ad 0)), (1, .int x70)]) 1 (jd k_Mod_judge 123 rfl) rfl e71 rfl (Nat.le_of_ble_eq_true rfl) rfl ?_
          refine j_goto (pc := 208) (tgt := 2) (jd k_Mod_judge 124 rfl) rfl ?_
          exact ih x70 s68 _ H kx
        have H := h66
        refine j_if_eq (pc := 189) (tgt := 200) (jd k_Mod_judge 113 rfl) rfl (fun h64 => ?_) (fun h64 => ?_)
        · rw [if_pos h64] at H
          refine j_iconst (pc := 200) (v := 0) (jd k_Mod_judge 120 rfl) (by decide) ?_
          cases H
          exact j_pick [0, 1] rfl K67
        · rw [if_neg h64] at H
          refine j_iconst (pc := 192) (v := 1) (jd k_Mod_judge 114 rfl) (by decide) ?_
          refine j_iload_n (pc := 193) 1 (jd k_Mod_judge 115 rfl) rfl ?_
          refine j_iconst (pc := 194) (v := 1) (jd k_Mod_judge 116 rfl) (by decide) ?_
          refine j_isub (pc := 195) (jd k_Mod_judge 117 rfl) ?_
          refine j_ishl (pc := 196) (jd k_Mod_judge 118 rfl) ?_
          refine j_goto (pc := 197) (tgt := 201) (jd k_Mod_judge 119 rfl) rfl ?_
          cases H
          exact j_pick [0, 1] rfl K67
      have H := h15
      refine j_if_eq (pc := 18) (tgt := 62) (jd k_Mod_judge 10 rfl) rfl (fun h6 => ?_) (fun h6 => ?_)
      · rw [if_pos h6] at H
        refine j_iconst (pc := 62) (v := 0) (jd k_Mod_judge 36 rfl) (by decide) ?_
        cases H
        exact K16
      · rw [if_neg h6] at H
        refine j_aload_n (pc := 21) 0 (jd k_Mod_judge 11 rfl) rfl ?_
        refine j_get (pc := 22) (fs := flR ad s2) (v := .ref (ad 11)) fl_Mod_40_10 0 (jd k_Mod_judge 12 rfl) rfl rfl ?_
        refine j_iload_n (pc := 25) 1 (jd k_Mod_judge 13 rfl) rfl ?_
        refine j_iconst (pc := 26) (v := 1) (jd k_Mod_judge 14 rfl) (by decide) ?_
        refine j_isub (pc := 27) (jd k_Mod_judge 15 rfl) ?_
        obtain ⟨h7, H⟩ := ochk H
        refine j_iald (pc := 28) (f := s2 28) 11 (jd k_Mod_judge 16 rfl) rfl (jin.vp h7) ?_
        obtain ⟨x8, h9, H⟩ := obnd H
        refine jc_S (pc := 29) (st := []) (c_Mod_bits G _ (s2 28 (x1 - 1).toNatClampNeg) _ h9) L0_Mod_bits w1403 w1404 (jd k_Mod_judge 17 rfl) rfl (Nat.le_of_ble_eq_true rfl) (by decide) (Nat.le_refl _) (Nat.le_refl _) rfl rfl ?_
        refine j_aload_n (pc := 32) 0 (jd k_Mod_judge 18 rfl) rfl ?_
        refine j_get (pc := 33) (fs := flR ad s2) (v := .int (s2 12 0)) fl_Mod_216_10 0 (jd k_Mod_judge 19 rfl) rfl rfl ?_
        refine j_icmp_ge (pc := 36) (tgt := 62) (jd k_Mod_judge 20 rfl) rfl (fun h10 => ?_) (fun h10 => ?_)
        · rw [if_pos h10] at H
          refine j_iconst (pc := 62) (v := 0) (jd k_Mod_judge 36 rfl) (by decide) ?_
          cases H
          exact K16
        · rw [if_neg h10] at H
          refine j_aload_n (pc := 39) 0 (jd k_Mod_judge 21 rfl) rfl ?_
          refine j_get (pc := 40) (fs := flR ad s2) (v := .ref (ad 12)) fl_Mod_43_10 0 (jd k_Mod_judge 22 rfl) rfl rfl ?_
          refine j_iload_n (pc := 43) 1 (jd k_Mod_judge 23 rfl) rfl ?_
          refine j_iconst (pc := 44) (v := 1) (jd k_Mod_judge 24 rfl) (by decide) ?_
          refine j_isub (pc := 45) (jd k_Mod_judge 25 rfl) ?_
          obtain ⟨h11, H⟩ := ochk H
          refine j_iald (pc := 46) (f := s2 29) 12 (jd k_Mod_judge 26 rfl) rfl (jin.vp h11) ?_
          refine j_aload_n (pc := 47) 0 (jd k_Mod_judge 27 rfl) rfl ?_
          refine j_get (pc := 48) (fs := flR ad s2) (v := .ref (ad 11)) fl_Mod_40_10 0 (jd k_Mod_judge 28 rfl) rfl rfl ?_
          refine j_iload_n (pc := 51) 1 (jd k_Mod_judge 29 rfl) rfl ?_
          refine j_iconst (pc := 52) (v := 1) (jd k_Mod_judge 30 rfl) (by decide) ?_
          refine j_isub (pc := 53) (jd k_Mod_judge 31 rfl) ?_
          obtain ⟨h12, H⟩ := ochk H
          refine j_iald (pc := 54) (f := s2 28) 11 (jd k_Mod_judge 32 rfl) rfl (jin.vp h12) ?_
          refine j_icmp_ne (pc := 55) (tgt := 62) (jd k_Mod_judge 33 rfl) rfl (fun h13 => ?_) (fun h13 => ?_)
          · rw [if_pos h13] at H
            refine j_iconst (pc := 62) (v := 0) (jd k_Mod_judge 36 rfl) (by decide) ?_
            cases H
            exact K16
          · rw [if_neg (not_not_intro h13)] at H
            refine j_iconst (pc := 58) (v := 1) (jd k_Mod_judge 34 rfl) (by decide) ?_
            refine j_goto (pc := 59) (tgt := 63) (jd k_Mod_judge 35 rfl) rfl ?_
            cases H
            exact K16

set_option maxRecDepth 20000 in
theorem c_Mod_judge (ad : Nat → Nat) (G : jG) (s : jS) (r : jS) (H : f_Mod_judge s = some r) : jCon G m_Mod_judge y_Mod_judge 2 0 0 [.ref (ad 0)] (mkR ad G s) (jEq none (mkR ad G r)) := by
  refine jCon.of (by decide +kernel) rfl rfl rfl (Nat.le_of_ble_eq_true rfl) rfl ?_
  have H : (
  Option.bind (L_Mod_judge_2 jF 1 s) fun (x72, s73) =>
  Option.bind (L_Mod_judge_213 jF 1 s73) fun (x116, s117) =>
  Option.bind (α := Int32) (
    if ¬ (s117 25 0) = 0 then
      some 0
    else
      some 1) fun x120 =>
  if jbo x120 then
  jlet (va_up s117 17 (fun _ => x120)) fun s123 =>
  some s123
  else none) = some r := H
  generalize hP9 : jEq none (mkR ad G r) = P
  refine j_iconst (pc := 0) (v := 1) (jd k_Mod_judge 0 rfl) (by decide) ?_
  refine j_istore_n (pc := 1) (lv' := [(0, .ref (ad 0)), (1, .int 1)]) (jd k_Mod_judge 1 rfl) rfl (Nat.le_of_ble_eq_true rfl) rfl ?_
  obtain ⟨⟨x72, s73⟩, h74, H⟩ := obnd H
  try dsimp only at H
  refine lp_Mod_judge_2  jF 1 s _ h74 ?_
  refine j_pick (lv' := [(0, .ref (ad 0))]) [0] rfl ?_
  refine j_iconst (pc := 211) (v := 1) (jd k_Mod_judge 125 rfl) (by decide) ?_
  refine j_istore_n (pc := 212) (lv' := [(0, .ref (ad 0)), (1, .int 1)]) (jd k_Mod_judge 126 rfl) rfl (Nat.le_of_ble_eq_true rfl) rfl ?_
  obtain ⟨⟨x116, s117⟩, h118, H⟩ := obnd H
  try dsimp only at H
  refine lp_Mod_judge_213  jF 1 s73 _ h118 ?_
  refine j_pick (lv' := [(0, .ref (ad 0))]) [0] rfl ?_
  refine j_aload_n (pc := 341) 0 (jd k_Mod_judge 207 rfl) rfl ?_
  refine j_aload_n (pc := 342) 0 (jd k_Mod_judge 208 rfl) rfl ?_
  refine j_get (pc := 343) (fs := flR ad s117) (v := .int (s117 25 0)) fl_Mod_243_10 0 (jd k_Mod_judge 209 rfl) rfl rfl ?_
  obtain ⟨x120, h121, H⟩ := obnd H
  have K122 : J G m_Mod_judge 2 0 0 P 354 [] [.int x120, .ref (ad 0)] (mkR ad G s117) 0 0 := by
    obtain ⟨h125, H⟩ := ochk H
    obtain ⟨s123, e124, H⟩ := olet H
    refine j_put (pc := 354) (fs := flR ad s117) (fp_Mod_228_10 _) 0 (jd k_Mod_judge 214 rfl) rfl (jbo.nar h125) (jbo.fit h125) (Nat.le_of_ble_eq_true rfl) ((wpR_17 ad G s117 _).trans (congrArg (mkR ad G) e124)) ?_
    cases H
    subst hP9
    exact j_vret (pc := 357) (jd k_Mod_judge 215 rfl) rfl ⟨rfl, rfl⟩
  have H := h121
  refine j_if_ne (pc := 346) (tgt := 353) (jd k_Mod_judge 210 rfl) rfl (fun h119 => ?_) (fun h119 => ?_)
  · rw [if_pos h119] at H
    refine j_iconst (pc := 353) (v := 0) (jd k_Mod_judge 213 rfl) (by decide) ?_
    cases H
    exact j_pick [] rfl K122
  · rw [if_neg (not_not_intro h119)] at H
    refine j_iconst (pc := 349) (v := 1) (jd k_Mod_judge 211 rfl) (by decide) ?_
    refine j_goto (pc := 350) (tgt := 354) (jd k_Mod_judge 212 rfl) rfl ?_
    cases H
    exact j_pick [] rfl K122

set_option maxRecDepth 20000 in
theorem lp_Mod_extract_59 {ad : Nat → Nat} {G : jG} {P : jR → va_W → Prop} (x1 : Int32) : ∀ (n : Nat) (x16 : Int32) (s17 : jS) (r : Int32 × jS), L_Mod_extract_59 x1 n x16 s17 = some r → J G m_Mod_extract 2 0 0 P 133 [(0, .ref (ad 0)), (1, .int x1), (2, .int r.1)] [] (mkR ad G r.2) 0 0 → J G m_Mod_extract 2 0 0 P 59 [(0, .ref (ad 0)), (1, .int x1), (2, .int x16)] [] (mkR ad G s17) 0 0 := by
  intro n
  induction n with
  | zero =>
    intro x16 s17 r H
    cases (show none = some r from H)
  | succ n ih =>
    intro x16 s17 r H kx
    have H : (
    if (s17 12 0) ≤ x16 then
      some (x16, s17)
    else
      jlet (((7 * x1) - 7) + x16) fun x19 =>
      if jin x19 49 then
      Option.bind (α := Int32) (
        if ¬ x16 = 0 then
          some 0
        else
          Option.bind (f_Mod_is x1 5 s17) fun x22 =>
          if x22 = 0 then
            some 0
          else
            some 1) fun x25 =>
      if ¬ (s17 10 0) = 0 then
      if jin x19 49 then
      jlet (va_up s17 35 (upd (s17 35) x19.toNatClampNeg (jrem ((s17 19 x19.toNatClampNeg) + x25) (s17 10 0)))) fun s29 =>
      if jin x19 49 then
      Option.bind (f_Mod_element (s29 35 x19.toNatClampNeg) s29) fun x33 =>
      Option.bind (f_Mod_showTwo x33 s29) fun s35 =>
      jlet (x16 + 1) fun x37 =>
      L_Mod_extract_59 x1 n x37 s35
      else none
      else none
      else none
      else none) = some r := H
    refine j_iload_n (pc := 59) 2 (jd k_Mod_extract 35 rfl) rfl ?_
    refine j_aload_n (pc := 60) 0 (jd k_Mod_extract 36 rfl) rfl ?_
    refine j_get (pc := 61) (fs := flR ad s17) (v := .int (s17 12 0)) fl_Mod_216_10 0 (jd k_Mod_extract 37 rfl) rfl rfl ?_
    refine j_icmp_ge (pc := 64) (tgt := 133) (jd k_Mod_extract 38 rfl) rfl (fun h18 => ?_) (fun h18 => ?_)
    · rw [if_pos h18] at H
      cases H
      exact kx
    · rw [if_neg h18] at H
      refine j_bipush (pc := 67) (v := 7) (jd k_Mod_extract 39 rfl) (by decide) ?_
      refine j_iload_n (pc := 69) 1 (jd k_Mod_extract 40 rfl) rfl ?_
      refine j_imul (pc := 70) (jd k_Mod_extract 41 rfl) ?_
      refine j_bipush (pc := 71) (v := 7) (jd k_Mod_extract 42 rfl) (by decide) ?_
      refine j_isub (pc := 73) (jd k_Mod_extract 43 rfl) ?_
      refine j_iload_n (pc := 74) 2 (jd k_Mod_extract 44 rfl) rfl ?_
      refine j_iadd (pc := 75) (jd k_Mod_extract 45 rfl) ?_
      obtain ⟨x19, e39, H⟩ := olet H
      refine j_topi e39 ?_
      refine j_istore_n (pc := 76) (lv' := [(0, .ref (ad 0)), (1, .int x1), (2, .int x16), (3, .int x19)]) (jd k_Mod_extract 46 rfl) rfl (Nat.le_of_ble_eq_true rfl) rfl ?_
      refine j_aload_n (pc := 77) 0 (jd k_Mod_extract 47 rfl) rfl ?_
      refine j_get (pc := 78) (fs := flR ad s17) (v := .ref (ad 18)) fl_Mod_61_10 0 (jd k_Mod_extract 48 rfl) rfl rfl ?_
      refine j_iload_n (pc := 81) 3 (jd k_Mod_extract 49 rfl) rfl ?_
      refine j_aload_n (pc := 82) 0 (jd k_Mod_extract 50 rfl) rfl ?_
      refine j_get (pc := 83) (fs := flR ad s17) (v := .ref (ad 7)) fl_Mod_28_10 0 (jd k_Mod_extract 51 rfl) rfl rfl ?_
      refine j_iload_n (pc := 86) 3 (jd k_Mod_extract 52 rfl) rfl ?_
      obtain ⟨h20, H⟩ := ochk H
      refine j_iald (pc := 87) (f := s17 19) 7 (jd k_Mod_extract 53 rfl) rfl (jin.vp h20) ?_
      refine j_iload_n (pc := 88) 2 (jd k_Mod_extract 54 rfl) rfl ?_
      obtain ⟨x25, h26, H⟩ := obnd H
      have K27 : J G m_Mod_extract 2 0 0 P 106 [(0, .ref (ad 0)), (1, .int x1), (2, .int x16), (3, .int x19)] [.int x25, .int (s17 19 x19.toNatClampNeg), .int x19, .ref (ad 18)] (mkR ad G s17) 0 0 := by
        refine j_iadd (pc := 106) (jd k_Mod_extract 64 rfl) ?_
        refine j_aload_n (pc := 107) 0 (jd k_Mod_extract 65 rfl) rfl ?_
        refine j_get (pc := 108) (fs := flR ad s17) (v := .int (s17 10 0)) fl_Mod_213_10 0 (jd k_Mod_extract 66 rfl) rfl rfl ?_
        obtain ⟨h28, H⟩ := ochk H
        refine j_irem (pc := 111) (jd k_Mod_extract 67 rfl) h28 ?_
        obtain ⟨h31, H⟩ := ochk H
        obtain ⟨s29, e30, H⟩ := olet H
        refine j_iast (pc := 112) (f := s17 35) 18 (jd k_Mod_extract 68 rfl) rfl (jin.vp h31) ((waR_35 ad G s17 _).trans (congrArg (mkR ad G) e30)) ?_
        refine j_aload_n (pc := 113) 0 (jd k_Mod_extract 69 rfl) rfl ?_
        refine j_aload_n (pc := 114) 0 (jd k_Mod_extract 70 rfl) rfl ?_
        refine j_aload_n (pc := 115) 0 (jd k_Mod_extract 71 rfl) rfl ?_
        refine j_get (pc := 116) (fs := flR ad s29) (v := .ref (ad 18)) fl_Mod_61_10 0 (jd k_Mod_extract 72 rfl) rfl rfl ?_
        refine j_iload_n (pc := 119) 3 (jd k_Mod_extract 73 rfl) rfl ?_
        obtain ⟨h32, H⟩ := ochk H
        refine j_iald (pc := 120) (f := s29 35) 18 (jd k_Mod_extract 74 rfl) rfl (jin.vp h32) ?_
        obtain ⟨x33, h34, H⟩ := obnd H
        refine jc_V (pc := 121) (st := [.ref (ad 0)]) (c_Mod_element ad G (s29 35 x19.toNatClampNeg) s29 _ h34) L0_Mod_element w1356 w1358 w41 0 rfl rfl (jd k_Mod_extract 75 rfl) rfl (Nat.le_of_ble_eq_true rfl) (by decide) (Nat.le_refl _) (Nat.le_refl _) rfl rfl ?_
        obtain ⟨s35, h36, H⟩ := obnd H
        refine jc_V (pc := 124) (st := []) (c_Mod_showTwo ad G x33 s29 _ h36) L0_Mod_showTwo w1360 w1362 w42 0 rfl rfl (jd k_Mod_extract 76 rfl) rfl (Nat.le_of_ble_eq_true rfl) (by decide) (Nat.le_refl _) (Nat.le_refl _) rfl rfl ?_
        obtain ⟨x37, e38, H⟩ := olet H
        refine j_iinc (pc := 127) (lv' := [(0, .ref (ad 0)), (1, .int x1), (2, .int x37), (3, .int x19)]) 2 (jd k_Mod_extract 77 rfl) rfl e38 rfl (Nat.le_of_ble_eq_true rfl) rfl ?_
        refine j_goto (pc := 130) (tgt := 59) (jd k_Mod_extract 78 rfl) rfl ?_
        refine j_pick (lv' := [(0, .ref (ad 0)), (1, .int x1), (2, .int x37)]) [0, 1, 2] rfl ?_
        exact ih x37 s35 _ H kx
      have H := h26
      refine j_if_ne (pc := 89) (tgt := 105) (jd k_Mod_extract 55 rfl) rfl (fun h21 => ?_) (fun h21 => ?_)
      · rw [if_pos h21] at H
        refine j_iconst (pc := 105) (v := 0) (jd k_Mod_extract 63 rfl) (by decide) ?_
        cases H
        exact K27
      · rw [if_neg (not_not_intro h21)] at H
        refine j_aload_n (pc := 92) 0 (jd k_Mod_extract 56 rfl) rfl ?_
        refine j_iload_n (pc := 93) 1 (jd k_Mod_extract 57 rfl) rfl ?_
        refine j_iconst (pc := 94) (v := 5) (jd k_Mod_extract 58 rfl) (by decide) ?_
        obtain ⟨x22, h23, H⟩ := obnd H
        refine jc_V (pc := 95) (st := [.int (s17 19 x19.toNatClampNeg), .int x19, .ref (ad 18)]) (c_Mod_is ad G x1 5 s17 _ h23) L0_Mod_is w1348 w1350 w39 0 rfl rfl (jd k_Mod_extract 59 rfl) rfl (Nat.le_of_ble_eq_true rfl) (by decide) (Nat.le_refl _) (Nat.le_refl _) rfl rfl ?_
        refine j_if_eq (pc := 98) (tgt := 105) (jd k_Mod_extract 60 rfl) rfl (fun h24 => ?_) (fun h24 => ?_)
        · rw [if_pos h24] at H
          refine j_iconst (pc := 105) (v := 0) (jd k_Mod_extract 63 rfl) (by decide) ?_
          cases H
          exact K27
        · rw [if_neg h24] at H
          refine j_iconst (pc := 101) (v := 1) (jd k_Mod_extract 61 rfl) (by decide) ?_
          refine j_goto (pc := 102) (tgt := 106) (jd k_Mod_extract 62 rfl) rfl ?_
          cases H
          exact K27

set_option maxRecDepth 20000 in
theorem lp_Mod_extract_2 {ad : Nat → Nat} {G : jG} {P : jR → va_W → Prop} : ∀ (n : Nat) (x1 : Int32) (s2 : jS) (r : Int32 × jS), L_Mod_extract_2 n x1 s2 = some r → J G m_Mod_extract 2 0 0 P 139 [(0, .ref (ad 0)), (1, .int r.1)] [] (mkR ad G r.2) 0 0 → J G m_Mod_extract 2 0 0 P 2 [(0, .ref (ad 0)), (1, .int x1)] [] (mkR ad G s2) 0 0 := by
  intro n
  induction n with
  | zero =>
    intro x1 s2 r H
    cases (show none = some r from H)
  | succ n ih =>
    intro x1 s2 r H kx
    have H : (
    if (s2 11 0) < x1 then
      some (x1, s2)
    else
      Option.bind (f_Mod_works x1 5 s2) fun x4 =>
      Option.bind (α := jS) (
        if x4 = 0 then
          some s2
        else
          Option.bind (f_Mod_in (s2 25 0) x1) fun x7 =>
          if ¬ x7 = 0 then
            jlet (va_up s2 24 (fun _ => (s2 24 0) ||| (1 <<< ((x1 - 1) &&& 31)))) fun s10 =>
            Option.bind (f_Mod_show 5 s10) fun s12 =>
            Option.bind (f_Mod_show x1 s12) fun s14 =>
            Option.bind (L_Mod_extract_59 x1 jF 0 s14) fun (x40, s41) =>
            some s41
          else
            some s2) fun s43 =>
      jlet (x1 + 1) fun x46 =>
      L_Mod_extract_2 n x46 s43) = some r := H
    refine j_iload_n (pc := 2) 1 (jd k_Mod_extract 2 rfl) rfl ?_
    refine j_aload_n (pc := 3) 0 (jd k_Mod_extract 3 rfl) rfl ?_
    refine j_get (pc := 4) (fs := flR ad s2) (v := .int (s2 11 0)) fl_Mod_207_10 0 (jd k_Mod_extract 4 rfl) rfl rfl ?_
    refine j_icmp_gt (pc := 7) (tgt := 139) (jd k_Mod_extract 5 rfl) rfl (fun h3 => ?_) (fun h3 => ?_)
    · rw [if_pos h3] at H
      cases H
      exact kx
    · rw [if_neg h3] at H
      refine j_aload_n (pc := 10) 0 (jd k_Mod_extract 6 rfl) rfl ?_
      refine j_iload_n (pc := 11) 1 (jd k_Mod_extract 7 rfl) rfl ?_
      refine j_iconst (pc := 12) (v := 5) (jd k_Mod_extract 8 rfl) (by decide) ?_
      obtain ⟨x4, h5, H⟩ := obnd H
      refine jc_V (pc := 13) (st := []) (c_Mod_works ad G x1 5 s2 _ h5) L0_Mod_works w1344 w1346 w38 0 rfl rfl (jd k_Mod_extract 9 rfl) rfl (Nat.le_of_ble_eq_true rfl) (by decide) (Nat.le_refl _) (Nat.le_refl _) rfl rfl ?_
      obtain ⟨s43, h44, H⟩ := obnd H
      have K45 : J G m_Mod_extract 2 0 0 P 133 [(0, .ref (ad 0)), (1, .int x1)] [] (mkR ad G s43) 0 0 := by
        obtain ⟨x46, e47, H⟩ := olet H
        refine j_iinc (pc := 133) (lv' := [(0, .ref (ad 0)), (1, .int x46)]) 1 (jd k_Mod_extract 79 rfl) rfl e47 rfl (Nat.le_of_ble_eq_true rfl) rfl ?_
        refine j_goto (pc := 136) (tgt := 2) (jd k_Mod_extract 80 rfl) rfl ?_
        exact ih x46 s43 _ H kx
      have H := h44
      refine j_if_eq (pc := 16) (tgt := 133) (jd k_Mod_extract 10 rfl) rfl (fun h6 => ?_) (fun h6 => ?_)
      · rw [if_pos h6] at H
        cases H
        exact K45
      · rw [if_neg h6] at H
        refine j_aload_n (pc := 19) 0 (jd k_Mod_extract 11 rfl) rfl ?_
        refine j_get (pc := 20) (fs := flR ad s2) (v := .int (s2 25 0)) fl_Mod_243_10 0 (jd k_Mod_extract 12 rfl) rfl rfl ?_
        refine j_iload_n (pc := 23) 1 (jd k_Mod_extract 13 rfl) rfl ?_
        obtain ⟨x7, h8, H⟩ := obnd H
        refine jc_S (pc := 24) (st := []) (c_Mod_in G _ (s2 25 0) x1 _ h8) L0_Mod_in w1384 w1385 (jd k_Mod_extract 14 rfl) rfl (Nat.le_of_ble_eq_true rfl) (by decide) (Nat.le_refl _) (Nat.le_refl _) rfl rfl ?_
        refine j_if_ne (pc := 27) (tgt := 33) (jd k_Mod_extract 15 rfl) rfl (fun h9 => ?_) (fun h9 => ?_)
        · rw [if_pos h9] at H
          refine j_aload_n (pc := 33) 0 (jd k_Mod_extract 17 rfl) rfl ?_
          refine j_dup (pc := 34) (jd k_Mod_extract 18 rfl) rfl ?_
          refine j_get (pc := 35) (fs := flR ad s2) (v := .int (s2 24 0)) fl_Mod_240_10 0 (jd k_Mod_extract 19 rfl) rfl rfl ?_
          refine j_iconst (pc := 38) (v := 1) (jd k_Mod_extract 20 rfl) (by decide) ?_
          refine j_iload_n (pc := 39) 1 (jd k_Mod_extract 21 rfl) rfl ?_
          refine j_iconst (pc := 40) (v := 1) (jd k_Mod_extract 22 rfl) (by decide) ?_
          refine j_isub (pc := 41) (jd k_Mod_extract 23 rfl) ?_
          refine j_ishl (pc := 42) (jd k_Mod_extract 24 rfl) ?_
          refine j_ior (pc := 43) (jd k_Mod_extract 25 rfl) ?_
          obtain ⟨s10, e11, H⟩ := olet H
          refine j_put (pc := 44) (fs := flR ad s2) (fp_Mod_240_10 _) 0 (jd k_Mod_extract 26 rfl) rfl rfl rfl (Nat.le_of_ble_eq_true rfl) ((wpR_24 ad G s2 _).trans (congrArg (mkR ad G) e11)) ?_
          refine j_aload_n (pc := 47) 0 (jd k_Mod_extract 27 rfl) rfl ?_
          refine j_iconst (pc := 48) (v := 5) (jd k_Mod_extract 28 rfl) (by decide) ?_
          obtain ⟨s12, h13, H⟩ := obnd H
          refine jc_V (pc := 49) (st := []) (c_Mod_show ad G 5 s10 _ h13) L0_Mod_show w1352 w1354 w40 0 rfl rfl (jd k_Mod_extract 29 rfl) rfl (Nat.le_of_ble_eq_true rfl) (by decide) (Nat.le_refl _) (Nat.le_refl _) rfl rfl ?_
          refine j_aload_n (pc := 52) 0 (jd k_Mod_extract 30 rfl) rfl ?_
          refine j_iload_n (pc := 53) 1 (jd k_Mod_extract 31 rfl) rfl ?_
          obtain ⟨s14, h15, H⟩ := obnd H
          refine jc_V (pc := 54) (st := []) (c_Mod_show ad G x1 s12 _ h15) L0_Mod_show w1352 w1354 w40 0 rfl rfl (jd k_Mod_extract 32 rfl) rfl (Nat.le_of_ble_eq_true rfl) (by decide) (Nat.le_refl _) (Nat.le_refl _) rfl rfl ?_
          refine j_iconst (pc := 57) (v := 0) (jd k_Mod_extract 33 rfl) (by decide) ?_
          refine j_istore_n (pc := 58) (lv' := [(0, .ref (ad 0)), (1, .int x1), (2, .int 0)]) (jd k_Mod_extract 34 rfl) rfl (Nat.le_of_ble_eq_true rfl) rfl ?_
          obtain ⟨⟨x40, s41⟩, h42, H⟩ := obnd H
          try dsimp only at H
          refine lp_Mod_extract_59 x1 jF 0 s14 _ h42 ?_
          refine j_pick (lv' := [(0, .ref (ad 0)), (1, .int x1)]) [0, 1] rfl ?_
          cases H
          exact K45
        · rw [if_neg (not_not_intro h9)] at H
          refine j_goto (pc := 30) (tgt := 133) (jd k_Mod_extract 16 rfl) rfl ?_
          cases H
          exact K45

set_option maxRecDepth 20000 in
theorem c_Mod_extract (ad : Nat → Nat) (G : jG) (s : jS) (r : jS) (H : f_Mod_extract s = some r) : jCon G m_Mod_extract y_Mod_extract 2 0 0 [.ref (ad 0)] (mkR ad G s) (jEq none (mkR ad G r)) := by
  refine jCon.of (by decide +kernel) rfl rfl rfl (Nat.le_of_ble_eq_true rfl) rfl ?_
  have H : (
  Option.bind (L_Mod_extract_2 jF 1 s) fun (x48, s49) =>
  some s49) = some r := H
  generalize hP9 : jEq none (mkR ad G r) = P
  refine j_iconst (pc := 0) (v := 1) (jd k_Mod_extract 0 rfl) (by decide) ?_
  refine j_istore_n (pc := 1) (lv' := [(0, .ref (ad 0)), (1, .int 1)]) (jd k_Mod_extract 1 rfl) rfl (Nat.le_of_ble_eq_true rfl) rfl ?_
  obtain ⟨⟨x48, s49⟩, h50, H⟩ := obnd H
  try dsimp only at H
  refine lp_Mod_extract_2  jF 1 s _ h50 ?_
  refine j_pick (lv' := []) [] rfl ?_
  cases H
  subst hP9
  exact j_vret (pc := 139) (jd k_Mod_extract 81 rfl) rfl ⟨rfl, rfl⟩

set_option maxRecDepth 20000 in
theorem lp_Mod_accuse_80 {ad : Nat → Nat} {G : jG} {P : jR → va_W → Prop} (x1 : Int32) (x4 : Int32) (s5 : jS) (x16 : Int32) (x20 : Int32) : ∀ (n : Nat) (x21 : Int32) (x22 : Int32) (r : Int32 × Int32), L_Mod_accuse_80 x1 x4 s5 n x21 x22 = some r → J G m_Mod_accuse 3 0 0 P 128 [(0, .ref (ad 0)), (1, .int x1), (2, .int x4), (3, .int x16), (4, .int x20), (5, .int r.1), (6, .int r.2)] [] (mkR ad G s5) 0 0 → J G m_Mod_accuse 3 0 0 P 80 [(0, .ref (ad 0)), (1, .int x1), (2, .int x4), (3, .int x16), (4, .int x20), (5, .int x21), (6, .int x22)] [] (mkR ad G s5) 0 0 := by
  intro n
  induction n with
  | zero =>
    intro x21 x22 r H
    cases (show none = some r from H)
  | succ n ih =>
    intro x21 x22 r H kx
    have H : (
    if (s5 12 0) ≤ x22 then
      some (x21, x22)
    else
      if jin (((7 * x4) - 7) + x22) 49 then
      Option.bind (f_Mod_power x1 x22 s5) fun x25 =>
      if ¬ (s5 10 0) = 0 then
      jlet (jrem (x21 + ((s5 35 (((7 * x4) - 7) + x22).toNatClampNeg) * x25)) (s5 10 0)) fun x28 =>
      jlet (x22 + 1) fun x29 =>
      L_Mod_accuse_80 x1 x4 s5 n x28 x29
      else none
      else none) = some r := H
    refine j_iload (pc := 80) 6 (jd k_Mod_accuse 46 rfl) rfl ?_
    refine j_aload_n (pc := 82) 0 (jd k_Mod_accuse 47 rfl) rfl ?_
    refine j_get (pc := 83) (fs := flR ad s5) (v := .int (s5 12 0)) fl_Mod_216_10 0 (jd k_Mod_accuse 48 rfl) rfl rfl ?_
    refine j_icmp_ge (pc := 86) (tgt := 128) (jd k_Mod_accuse 49 rfl) rfl (fun h23 => ?_) (fun h23 => ?_)
    · rw [if_pos h23] at H
      cases H
      exact kx
    · rw [if_neg h23] at H
      refine j_iload (pc := 89) 5 (jd k_Mod_accuse 50 rfl) rfl ?_
      refine j_aload_n (pc := 91) 0 (jd k_Mod_accuse 51 rfl) rfl ?_
      refine j_get (pc := 92) (fs := flR ad s5) (v := .ref (ad 18)) fl_Mod_61_10 0 (jd k_Mod_accuse 52 rfl) rfl rfl ?_
      refine j_bipush (pc := 95) (v := 7) (jd k_Mod_accuse 53 rfl) (by decide) ?_
      refine j_iload_n (pc := 97) 2 (jd k_Mod_accuse 54 rfl) rfl ?_
      refine j_imul (pc := 98) (jd k_Mod_accuse 55 rfl) ?_
      refine j_bipush (pc := 99) (v := 7) (jd k_Mod_accuse 56 rfl) (by decide) ?_
      refine j_isub (pc := 101) (jd k_Mod_accuse 57 rfl) ?_
      refine j_iload (pc := 102) 6 (jd k_Mod_accuse 58 rfl) rfl ?_
      refine j_iadd (pc := 104) (jd k_Mod_accuse 59 rfl) ?_
      obtain ⟨h24, H⟩ := ochk H
      refine j_iald (pc := 105) (f := s5 35) 18 (jd k_Mod_accuse 60 rfl) rfl (jin.vp h24) ?_
      refine j_aload_n (pc := 106) 0 (jd k_Mod_accuse 61 rfl) rfl ?_
      refine j_iload_n (pc := 107) 1 (jd k_Mod_accuse 62 rfl) rfl ?_
      refine j_iload (pc := 108) 6 (jd k_Mod_accuse 63 rfl) rfl ?_
      obtain ⟨x25, h26, H⟩ := obnd H
      refine jc_V (pc := 110) (st := [.int (s5 35 (((7 * x4) - 7) + x22).toNatClampNeg), .int x21]) (c_Mod_power ad G x1 x22 s5 _ h26) L0_Mod_power w1372 w1374 w45 0 rfl rfl (jd k_Mod_accuse 64 rfl) rfl (Nat.le_of_ble_eq_true rfl) (by decide) (Nat.le_refl _) (Nat.le_refl _) rfl rfl ?_
      refine j_imul (pc := 113) (jd k_Mod_accuse 65 rfl) ?_
      refine j_iadd (pc := 114) (jd k_Mod_accuse 66 rfl) ?_
      refine j_aload_n (pc := 115) 0 (jd k_Mod_accuse 67 rfl) rfl ?_
      refine j_get (pc := 116) (fs := flR ad s5) (v := .int (s5 10 0)) fl_Mod_213_10 0 (jd k_Mod_accuse 68 rfl) rfl rfl ?_
      obtain ⟨h27, H⟩ := ochk H
      refine j_irem (pc := 119) (jd k_Mod_accuse 69 rfl) h27 ?_
      obtain ⟨x28, e31, H⟩ := olet H
      refine j_topi e31 ?_
      refine j_istore (pc := 120) (lv' := [(0, .ref (ad 0)), (1, .int x1), (2, .int x4), (3, .int x16), (4, .int x20), (5, .int x28), (6, .int x22)]) (jd k_Mod_accuse 70 rfl) rfl (Nat.le_of_ble_eq_true rfl) rfl ?_
      obtain ⟨x29, e30, H⟩ := olet H
      refine j_iinc (pc := 122) (lv' := [(0, .ref (ad 0)), (1, .int x1), (2, .int x4), (3, .int x16), (4, .int x20), (5, .int x28), (6, .int x29)]) 6 (jd k_Mod_accuse 71 rfl) rfl e30 rfl (Nat.le_of_ble_eq_true rfl) rfl ?_
      refine j_goto (pc := 125) (tgt := 80) (jd k_Mod_accuse 72 rfl) rfl ?_
      exact ih x28 x29 _ H kx

set_option maxRecDepth 20000 in
theorem lp_Mod_accuse_12 {ad : Nat → Nat} {G : jG} {P : jR → va_W → Prop} (x1 : Int32) : ∀ (n : Nat) (x4 : Int32) (s5 : jS) (r : Int32 × jS), L_Mod_accuse_12 x1 n x4 s5 = some r → J G m_Mod_accuse 3 0 0 P 180 [(0, .ref (ad 0)), (1, .int x1), (2, .int r.1)] [] (mkR ad G r.2) 0 0 → J G m_Mod_accuse 3 0 0 P 12 [(0, .ref (ad 0)), (1, .int x1), (2, .int x4)] [] (mkR ad G s5) 0 0 := by
  intro n
  induction n with
  | zero =>
    intro x4 s5 r H
    cases (show none = some r from H)
  | succ n ih =>
    intro x4 s5 r H kx
    have H : (
    if (s5 11 0) < x4 then
      some (x4, s5)
    else
      Option.bind (f_Mod_works x1 6 s5) fun x7 =>
      if x7 = 0 then
        some (x4, s5)
      else
        Option.bind (f_Mod_in ((s5 25 0) &&& (s5 24 0)) x4) fun x10 =>
        Option.bind (α := jS) (
          if ¬ x10 = 0 then
            Option.bind (f_Mod_at x4 x1 s5) fun x13 =>
            if jin x13 49 then
            jlet (s5 30 x13.toNatClampNeg) fun x16 =>
            Option.bind (f_Mod_at x4 x1 s5) fun x17 =>
            if jin x17 49 then
            jlet (s5 31 x17.toNatClampNeg) fun x20 =>
            Option.bind (L_Mod_accuse_80 x1 x4 s5 jF 0 0) fun (x32, x33) =>
            if x16 = x32 then
              some s5
            else
              Option.bind (f_Mod_fits x4 x1 x16 x20 s5) fun x36 =>
              if ¬ x36 = 0 then
                jlet (va_up s5 26 (fun _ => (s5 26 0) ||| (1 <<< ((x4 - 1) &&& 31)))) fun s39 =>
                Option.bind (f_Mod_showNumbers 6 x1 x4 x16 x20 s39) fun s41 =>
                some s41
              else
                some s5
            else none
            else none
          else
            some s5) fun s45 =>
        jlet (x4 + 1) fun x48 =>
        L_Mod_accuse_12 x1 n x48 s45) = some r := H
    refine j_iload_n (pc := 12) 2 (jd k_Mod_accuse 8 rfl) rfl ?_
    refine j_aload_n (pc := 13) 0 (jd k_Mod_accuse 9 rfl) rfl ?_
    refine j_get (pc := 14) (fs := flR ad s5) (v := .int (s5 11 0)) fl_Mod_207_10 0 (jd k_Mod_accuse 10 rfl) rfl rfl ?_
    refine j_icmp_gt (pc := 17) (tgt := 180) (jd k_Mod_accuse 11 rfl) rfl (fun h6 => ?_) (fun h6 => ?_)
    · rw [if_pos h6] at H
      cases H
      exact kx
    · rw [if_neg h6] at H
      refine j_aload_n (pc := 20) 0 (jd k_Mod_accuse 12 rfl) rfl ?_
      refine j_iload_n (pc := 21) 1 (jd k_Mod_accuse 13 rfl) rfl ?_
      refine j_bipush (pc := 22) (v := 6) (jd k_Mod_accuse 14 rfl) (by decide) ?_
      obtain ⟨x7, h8, H⟩ := obnd H
      refine jc_V (pc := 24) (st := []) (c_Mod_works ad G x1 6 s5 _ h8) L0_Mod_works w1344 w1346 w38 0 rfl rfl (jd k_Mod_accuse 15 rfl) rfl (Nat.le_of_ble_eq_true rfl) (by decide) (Nat.le_refl _) (Nat.le_refl _) rfl rfl ?_
      refine j_if_eq (pc := 27) (tgt := 180) (jd k_Mod_accuse 16 rfl) rfl (fun h9 => ?_) (fun h9 => ?_)
      · rw [if_pos h9] at H
        cases H
        exact kx
      · rw [if_neg h9] at H
        refine j_aload_n (pc := 30) 0 (jd k_Mod_accuse 17 rfl) rfl ?_
        refine j_get (pc := 31) (fs := flR ad s5) (v := .int (s5 25 0)) fl_Mod_243_10 0 (jd k_Mod_accuse 18 rfl) rfl rfl ?_
        refine j_aload_n (pc := 34) 0 (jd k_Mod_accuse 19 rfl) rfl ?_
        refine j_get (pc := 35) (fs := flR ad s5) (v := .int (s5 24 0)) fl_Mod_240_10 0 (jd k_Mod_accuse 20 rfl) rfl rfl ?_
        refine j_iand (pc := 38) (jd k_Mod_accuse 21 rfl) ?_
        refine j_iload_n (pc := 39) 2 (jd k_Mod_accuse 22 rfl) rfl ?_
        obtain ⟨x10, h11, H⟩ := obnd H
        refine jc_S (pc := 40) (st := []) (c_Mod_in G _ ((s5 25 0) &&& (s5 24 0)) x4 _ h11) L0_Mod_in w1384 w1385 (jd k_Mod_accuse 23 rfl) rfl (Nat.le_of_ble_eq_true rfl) (by decide) (Nat.le_refl _) (Nat.le_refl _) rfl rfl ?_
        obtain ⟨s45, h46, H⟩ := obnd H
        have K47 : J G m_Mod_accuse 3 0 0 P 174 [(0, .ref (ad 0)), (1, .int x1), (2, .int x4)] [] (mkR ad G s45) 0 0 := by
          obtain ⟨x48, e49, H⟩ := olet H
          refine j_iinc (pc := 174) (lv' := [(0, .ref (ad 0)), (1, .int x1), (2, .int x48)]) 2 (jd k_Mod_accuse 101 rfl) rfl e49 rfl (Nat.le_of_ble_eq_true rfl) rfl ?_
          refine j_goto (pc := 177) (tgt := 12) (jd k_Mod_accuse 102 rfl) rfl ?_
          exact ih x48 s45 _ H kx
        have H := h46
        refine j_if_ne (pc := 43) (tgt := 49) (jd k_Mod_accuse 24 rfl) rfl (fun h12 => ?_) (fun h12 => ?_)
        · rw [if_pos h12] at H
          refine j_aload_n (pc := 49) 0 (jd k_Mod_accuse 26 rfl) rfl ?_
          refine j_get (pc := 50) (fs := flR ad s5) (v := .ref (ad 13)) fl_Mod_46_10 0 (jd k_Mod_accuse 27 rfl) rfl rfl ?_
          refine j_aload_n (pc := 53) 0 (jd k_Mod_accuse 28 rfl) rfl ?_
          refine j_iload_n (pc := 54) 2 (jd k_Mod_accuse 29 rfl) rfl ?_
          refine j_iload_n (pc := 55) 1 (jd k_Mod_accuse 30 rfl) rfl ?_
          obtain ⟨x13, h14, H⟩ := obnd H
          refine jc_V (pc := 56) (st := [.ref (ad 13)]) (c_Mod_at ad G x4 x1 s5 _ h14) L0_Mod_at w1364 w1366 w43 0 rfl rfl (jd k_Mod_accuse 31 rfl) rfl (Nat.le_of_ble_eq_true rfl) (by decide) (Nat.le_refl _) (Nat.le_refl _) rfl rfl ?_
          obtain ⟨h15, H⟩ := ochk H
          refine j_iald (pc := 59) (f := s5 30) 13 (jd k_Mod_accuse 32 rfl) rfl (jin.vp h15) ?_
          obtain ⟨x16, e44, H⟩ := olet H
          refine j_topi e44 ?_
          refine j_istore_n (pc := 60) (lv' := [(0, .ref (ad 0)), (1, .int x1), (2, .int x4), (3, .int x16)]) (jd k_Mod_accuse 33 rfl) rfl (Nat.le_of_ble_eq_true rfl) rfl ?_
          refine j_aload_n (pc := 61) 0 (jd k_Mod_accuse 34 rfl) rfl ?_
          refine j_get (pc := 62) (fs := flR ad s5) (v := .ref (ad 14)) fl_Mod_49_10 0 (jd k_Mod_accuse 35 rfl) rfl rfl ?_
          refine j_aload_n (pc := 65) 0 (jd k_Mod_accuse 36 rfl) rfl ?_
          refine j_iload_n (pc := 66) 2 (jd k_Mod_accuse 37 rfl) rfl ?_
          refine j_iload_n (pc := 67) 1 (jd k_Mod_accuse 38 rfl) rfl ?_
          obtain ⟨x17, h18, H⟩ := obnd H
          refine jc_V (pc := 68) (st := [.ref (ad 14)]) (c_Mod_at ad G x4 x1 s5 _ h18) L0_Mod_at w1364 w1366 w43 0 rfl rfl (jd k_Mod_accuse 39 rfl) rfl (Nat.le_of_ble_eq_true rfl) (by decide) (Nat.le_refl _) (Nat.le_refl _) rfl rfl ?_
          obtain ⟨h19, H⟩ := ochk H
          refine j_iald (pc := 71) (f := s5 31) 14 (jd k_Mod_accuse 40 rfl) rfl (jin.vp h19) ?_
          obtain ⟨x20, e43, H⟩ := olet H
          refine j_topi e43 ?_
          refine j_istore (pc := 72) (lv' := [(0, .ref (ad 0)), (1, .int x1), (2, .int x4), (3, .int x16), (4, .int x20)]) (jd k_Mod_accuse 41 rfl) rfl (Nat.le_of_ble_eq_true rfl) rfl ?_
          refine j_iconst (pc := 74) (v := 0) (jd k_Mod_accuse 42 rfl) (by decide) ?_
          refine j_istore (pc := 75) (lv' := [(0, .ref (ad 0)), (1, .int x1), (2, .int x4), (3, .int x16), (4, .int x20), (5, .int 0)]) (jd k_Mod_accuse 43 rfl) rfl (Nat.le_of_ble_eq_true rfl) rfl ?_
          refine j_iconst (pc := 77) (v := 0) (jd k_Mod_accuse 44 rfl) (by decide) ?_
          refine j_istore (pc := 78) (lv' := [(0, .ref (ad 0)), (1, .int x1), (2, .int x4), (3, .int x16), (4, .int x20), (5, .int 0), (6, .int 0)]) (jd k_Mod_accuse 45 rfl) rfl (Nat.le_of_ble_eq_true rfl) rfl ?_
          obtain ⟨⟨x32, x33⟩, h34, H⟩ := obnd H
          try dsimp only at H
          refine lp_Mod_accuse_80 x1 x4 s5 x16 x20 jF 0 0 _ h34 ?_
          refine j_pick (lv' := [(0, .ref (ad 0)), (1, .int x1), (2, .int x4), (3, .int x16), (4, .int x20), (5, .int x32)]) [0, 1, 2, 3, 4, 5] rfl ?_
          refine j_iload_n (pc := 128) 3 (jd k_Mod_accuse 73 rfl) rfl ?_
          refine j_iload (pc := 129) 5 (jd k_Mod_accuse 74 rfl) rfl ?_
          refine j_icmp_eq (pc := 131) (tgt := 174) (jd k_Mod_accuse 75 rfl) rfl (fun h35 => ?_) (fun h35 => ?_)
          · rw [if_pos h35] at H
            cases H
            exact j_pick [0, 1, 2] rfl K47
          · rw [if_neg h35] at H
            refine j_aload_n (pc := 134) 0 (jd k_Mod_accuse 76 rfl) rfl ?_
            refine j_iload_n (pc := 135) 2 (jd k_Mod_accuse 77 rfl) rfl ?_
            refine j_iload_n (pc := 136) 1 (jd k_Mod_accuse 78 rfl) rfl ?_
            refine j_iload_n (pc := 137) 3 (jd k_Mod_accuse 79 rfl) rfl ?_
            refine j_iload (pc := 138) 4 (jd k_Mod_accuse 80 rfl) rfl ?_
            obtain ⟨x36, h37, H⟩ := obnd H
            refine jc_V (pc := 140) (st := []) (c_Mod_fits ad G x4 x1 x16 x20 s5 _ h37) L0_Mod_fits w1387 w1389 w48 0 rfl rfl (jd k_Mod_accuse 81 rfl) rfl (Nat.le_of_ble_eq_true rfl) (by decide) (Nat.le_refl _) (Nat.le_refl _) rfl rfl ?_
            refine j_if_ne (pc := 143) (tgt := 149) (jd k_Mod_accuse 82 rfl) rfl (fun h38 => ?_) (fun h38 => ?_)
            · rw [if_pos h38] at H
              refine j_aload_n (pc := 149) 0 (jd k_Mod_accuse 84 rfl) rfl ?_
              refine j_dup (pc := 150) (jd k_Mod_accuse 85 rfl) rfl ?_
              refine j_get (pc := 151) (fs := flR ad s5) (v := .int (s5 26 0)) fl_Mod_246_10 0 (jd k_Mod_accuse 86 rfl) rfl rfl ?_
              refine j_iconst (pc := 154) (v := 1) (jd k_Mod_accuse 87 rfl) (by decide) ?_
              refine j_iload_n (pc := 155) 2 (jd k_Mod_accuse 88 rfl) rfl ?_
              refine j_iconst (pc := 156) (v := 1) (jd k_Mod_accuse 89 rfl) (by decide) ?_
              refine j_isub (pc := 157) (jd k_Mod_accuse 90 rfl) ?_
              refine j_ishl (pc := 158) (jd k_Mod_accuse 91 rfl) ?_
              refine j_ior (pc := 159) (jd k_Mod_accuse 92 rfl) ?_
              obtain ⟨s39, e40, H⟩ := olet H
              refine j_put (pc := 160) (fs := flR ad s5) (fp_Mod_246_10 _) 0 (jd k_Mod_accuse 93 rfl) rfl rfl rfl (Nat.le_of_ble_eq_true rfl) ((wpR_26 ad G s5 _).trans (congrArg (mkR ad G) e40)) ?_
              refine j_aload_n (pc := 163) 0 (jd k_Mod_accuse 94 rfl) rfl ?_
              refine j_bipush (pc := 164) (v := 6) (jd k_Mod_accuse 95 rfl) (by decide) ?_
              refine j_iload_n (pc := 166) 1 (jd k_Mod_accuse 96 rfl) rfl ?_
              refine j_iload_n (pc := 167) 2 (jd k_Mod_accuse 97 rfl) rfl ?_
              refine j_iload_n (pc := 168) 3 (jd k_Mod_accuse 98 rfl) rfl ?_
              refine j_iload (pc := 169) 4 (jd k_Mod_accuse 99 rfl) rfl ?_
              obtain ⟨s41, h42, H⟩ := obnd H
              refine jc_V (pc := 171) (st := []) (c_Mod_showNumbers ad G 6 x1 x4 x16 x20 s39 _ h42) L0_Mod_showNumbers w1395 w1397 w50 0 rfl rfl (jd k_Mod_accuse 100 rfl) rfl (Nat.le_of_ble_eq_true rfl) (by decide) (Nat.le_refl _) (Nat.le_refl _) rfl rfl ?_
              cases H
              exact j_pick [0, 1, 2] rfl K47
            · rw [if_neg (not_not_intro h38)] at H
              refine j_goto (pc := 146) (tgt := 174) (jd k_Mod_accuse 83 rfl) rfl ?_
              cases H
              exact j_pick [0, 1, 2] rfl K47
        · rw [if_neg (not_not_intro h12)] at H
          refine j_goto (pc := 46) (tgt := 174) (jd k_Mod_accuse 25 rfl) rfl ?_
          cases H
          exact K47

set_option maxRecDepth 20000 in
theorem lp_Mod_accuse_2 {ad : Nat → Nat} {G : jG} {P : jR → va_W → Prop} : ∀ (n : Nat) (x1 : Int32) (s2 : jS) (r : Int32 × jS), L_Mod_accuse_2 n x1 s2 = some r → J G m_Mod_accuse 3 0 0 P 186 [(0, .ref (ad 0)), (1, .int r.1)] [] (mkR ad G r.2) 0 0 → J G m_Mod_accuse 3 0 0 P 2 [(0, .ref (ad 0)), (1, .int x1)] [] (mkR ad G s2) 0 0 := by
  intro n
  induction n with
  | zero =>
    intro x1 s2 r H
    cases (show none = some r from H)
  | succ n ih =>
    intro x1 s2 r H kx
    have H : (
    if (s2 11 0) < x1 then
      some (x1, s2)
    else
      Option.bind (L_Mod_accuse_12 x1 jF 1 s2) fun (x50, s51) =>
      jlet (x1 + 1) fun x53 =>
      L_Mod_accuse_2 n x53 s51) = some r := H
    refine j_iload_n (pc := 2) 1 (jd k_Mod_accuse 2 rfl) rfl ?_
    refine j_aload_n (pc := 3) 0 (jd k_Mod_accuse 3 rfl) rfl ?_
    refine j_get (pc := 4) (fs := flR ad s2) (v := .int (s2 11 0)) fl_Mod_207_10 0 (jd k_Mod_accuse 4 rfl) rfl rfl ?_
    refine j_icmp_gt (pc := 7) (tgt := 186) (jd k_Mod_accuse 5 rfl) rfl (fun h3 => ?_) (fun h3 => ?_)
    · rw [if_pos h3] at H
      cases H
      exact kx
    · rw [if_neg h3] at H
      refine j_iconst (pc := 10) (v := 1) (jd k_Mod_accuse 6 rfl) (by decide) ?_
      refine j_istore_n (pc := 11) (lv' := [(0, .ref (ad 0)), (1, .int x1), (2, .int 1)]) (jd k_Mod_accuse 7 rfl) rfl (Nat.le_of_ble_eq_true rfl) rfl ?_
      obtain ⟨⟨x50, s51⟩, h52, H⟩ := obnd H
      try dsimp only at H
      refine lp_Mod_accuse_12 x1 jF 1 s2 _ h52 ?_
      refine j_pick (lv' := [(0, .ref (ad 0)), (1, .int x1)]) [0, 1] rfl ?_
      obtain ⟨x53, e54, H⟩ := olet H
      refine j_iinc (pc := 180) (lv' := [(0, .ref (ad 0)), (1, .int x53)]) 1 (jd k_Mod_accuse 103 rfl) rfl e54 rfl (Nat.le_of_ble_eq_true rfl) rfl ?_
      refine j_goto (pc := 183) (tgt := 2) (jd k_Mod_accuse 104 rfl) rfl ?_
      exact ih x53 s51 _ H kx

set_option maxRecDepth 20000 in
theorem c_Mod_accuse (ad : Nat → Nat) (G : jG) (s : jS) (r : jS) (H : f_Mod_accuse s = some r) : jCon G m_Mod_accuse y_Mod_accuse 3 0 0 [.ref (ad 0)] (mkR ad G s) (jEq none (mkR ad G r)) := by
  refine jCon.of (by decide +kernel) rfl rfl rfl (Nat.le_of_ble_eq_true rfl) rfl ?_
  have H : (
  Option.bind (L_Mod_accuse_2 jF 1 s) fun (x55, s56) =>
  some s56) = some r := H
  generalize hP9 : jEq none (mkR ad G r) = P
  refine j_iconst (pc := 0) (v := 1) (jd k_Mod_accuse 0 rfl) (by decide) ?_
  refine j_istore_n (pc := 1) (lv' := [(0, .ref (ad 0)), (1, .int 1)]) (jd k_Mod_accuse 1 rfl) rfl (Nat.le_of_ble_eq_true rfl) rfl ?_
  obtain ⟨⟨x55, s56⟩, h57, H⟩ := obnd H
  try dsimp only at H
  refine lp_Mod_accuse_2  jF 1 s _ h57 ?_
  refine j_pick (lv' := []) [] rfl ?_
  cases H
  subst hP9
  exact j_vret (pc := 186) (jd k_Mod_accuse 105 rfl) rfl ⟨rfl, rfl⟩

set_option maxRecDepth 20000 in
theorem lp_Mod_weight_49 {ad : Nat → Nat} {G : jG} {P : jR → va_W → Prop} (p0 : Int32) (p1 : Int32) (s : jS) (x1 : Int32) (x2 : Int32) (x9 : Int32) : ∀ (n : Nat) (x10 : Int32) (r : Int32), L_Mod_weight_49 s x2 x9 n x10 = some r → J G m_Mod_weight 1 0 0 P 75 [(0, .ref (ad 0)), (1, .int p0), (2, .int p1), (3, .int x1), (4, .int x2), (5, .int x9), (6, .int r)] [] (mkR ad G s) 0 0 → J G m_Mod_weight 1 0 0 P 49 [(0, .ref (ad 0)), (1, .int p0), (2, .int p1), (3, .int x1), (4, .int x2), (5, .int x9), (6, .int x10)] [] (mkR ad G s) 0 0 := by
  intro n
  induction n with
  | zero =>
    intro x10 r H
    cases (show none = some r from H)
  | succ n ih =>
    intro x10 r H kx
    have H : (
    if ¬ (s 10 0) = 0 then
    if ¬ (s 10 0) = 0 then
    if (jrem (x10 * x9) (s 10 0)) = (jrem x2 (s 10 0)) then
      some x10
    else
      jlet (x10 + 1) fun x14 =>
      L_Mod_weight_49 s x2 x9 n x14
    else none
    else none) = some r := H
    refine j_iload (pc := 49) 6 (jd k_Mod_weight 27 rfl) rfl ?_
    refine j_iload (pc := 51) 5 (jd k_Mod_weight 28 rfl) rfl ?_
    refine j_imul (pc := 53) (jd k_Mod_weight 29 rfl) ?_
    refine j_aload_n (pc := 54) 0 (jd k_Mod_weight 30 rfl) rfl ?_
    refine j_get (pc := 55) (fs := flR ad s) (v := .int (s 10 0)) fl_Mod_213_10 0 (jd k_Mod_weight 31 rfl) rfl rfl ?_
    obtain ⟨h11, H⟩ := ochk H
    refine j_irem (pc := 58) (jd k_Mod_weight 32 rfl) h11 ?_
    refine j_iload (pc := 59) 4 (jd k_Mod_weight 33 rfl) rfl ?_
    refine j_aload_n (pc := 61) 0 (jd k_Mod_weight 34 rfl) rfl ?_
    refine j_get (pc := 62) (fs := flR ad s) (v := .int (s 10 0)) fl_Mod_213_10 0 (jd k_Mod_weight 35 rfl) rfl rfl ?_
    obtain ⟨h12, H⟩ := ochk H
    refine j_irem (pc := 65) (jd k_Mod_weight 36 rfl) h12 ?_
    refine j_icmp_eq (pc := 66) (tgt := 75) (jd k_Mod_weight 37 rfl) rfl (fun h13 => ?_) (fun h13 => ?_)
    · rw [if_pos h13] at H
      cases H
      exact kx
    · rw [if_neg h13] at H
      obtain ⟨x14, e15, H⟩ := olet H
      refine j_iinc (pc := 69) (lv' := [(0, .ref (ad 0)), (1, .int p0), (2, .int p1), (3, .int x1), (4, .int x2), (5, .int x9), (6, .int x14)]) 6 (jd k_Mod_weight 38 rfl) rfl e15 rfl (Nat.le_of_ble_eq_true rfl) rfl ?_
      refine j_goto (pc := 72) (tgt := 49) (jd k_Mod_weight 39 rfl) rfl ?_
      exact ih x14 _ H kx

set_option maxRecDepth 20000 in
theorem lp_Mod_weight_5 {ad : Nat → Nat} {G : jG} {P : jR → va_W → Prop} (p0 : Int32) (p1 : Int32) (s : jS) : ∀ (n : Nat) (x1 : Int32) (x2 : Int32) (r : Int32 × Int32), L_Mod_weight_5 p0 p1 s n x1 x2 = some r → J G m_Mod_weight 1 0 0 P 91 [(0, .ref (ad 0)), (1, .int p0), (2, .int p1), (3, .int r.1), (4, .int r.2)] [] (mkR ad G s) 0 0 → J G m_Mod_weight 1 0 0 P 5 [(0, .ref (ad 0)), (1, .int p0), (2, .int p1), (3, .int x1), (4, .int x2)] [] (mkR ad G s) 0 0 := by
  intro n
  induction n with
  | zero =>
    intro x1 x2 r H
    cases (show none = some r from H)
  | succ n ih =>
    intro x1 x2 r H kx
    have H : (
    if 8 ≤ x2 then
      some (x1, x2)
    else
      Option.bind (f_Mod_in p0 x2) fun x4 =>
      Option.bind (α := Int32) (
        if x4 = 0 then
          some x1
        else
          if ¬ x2 = p1 then
            if ¬ (s 10 0) = 0 then
            jlet (jrem ((x2 - p1) + (s 10 0)) (s 10 0)) fun x9 =>
            Option.bind (L_Mod_weight_49 s x2 x9 jF 0) fun x16 =>
            if ¬ (s 10 0) = 0 then
            jlet (jrem (x1 * x16) (s 10 0)) fun x19 =>
            some x19
            else none
            else none
          else
            some x1) fun x22 =>
      jlet (x2 + 1) fun x25 =>
      L_Mod_weight_5 p0 p1 s n x22 x25) = some r := H
    refine j_iload (pc := 5) 4 (jd k_Mod_weight 4 rfl) rfl ?_
    refine j_bipush (pc := 7) (v := 8) (jd k_Mod_weight 5 rfl) (by decide) ?_
    refine j_icmp_ge (pc := 9) (tgt := 91) (jd k_Mod_weight 6 rfl) rfl (fun h3 => ?_) (fun h3 => ?_)
    · rw [if_pos h3] at H
      cases H
      exact kx
    · rw [if_neg h3] at H
      refine j_iload_n (pc := 12) 1 (jd k_Mod_weight 7 rfl) rfl ?_
      refine j_iload (pc := 13) 4 (jd k_Mod_weight 8 rfl) rfl ?_
      obtain ⟨x4, h5, H⟩ := obnd H
      refine jc_S (pc := 15) (st := []) (c_Mod_in G _ p0 x2 _ h5) L0_Mod_in w1384 w1385 (jd k_Mod_weight 9 rfl) rfl (Nat.le_of_ble_eq_true rfl) (by decide) (Nat.le_refl _) (Nat.le_refl _) rfl rfl ?_
      obtain ⟨x22, h23, H⟩ := obnd H
      have K24 : J G m_Mod_weight 1 0 0 P 85 [(0, .ref (ad 0)), (1, .int p0), (2, .int p1), (3, .int x22), (4, .int x2)] [] (mkR ad G s) 0 0 := by
        obtain ⟨x25, e26, H⟩ := olet H
        refine j_iinc (pc := 85) (lv' := [(0, .ref (ad 0)), (1, .int p0), (2, .int p1), (3, .int x22), (4, .int x25)]) 4 (jd k_Mod_weight 47 rfl) rfl e26 rfl (Nat.le_of_ble_eq_true rfl) rfl ?_
        refine j_goto (pc := 88) (tgt := 5) (jd k_Mod_weight 48 rfl) rfl ?_
        exact ih x22 x25 _ H kx
      have H := h23
      refine j_if_eq (pc := 18) (tgt := 85) (jd k_Mod_weight 10 rfl) rfl (fun h6 => ?_) (fun h6 => ?_)
      · rw [if_pos h6] at H
        cases H
        exact K24
      · rw [if_neg h6] at H
        refine j_iload (pc := 21) 4 (jd k_Mod_weight 11 rfl) rfl ?_
        refine j_iload_n (pc := 23) 2 (jd k_Mod_weight 12 rfl) rfl ?_
        refine j_icmp_ne (pc := 24) (tgt := 30) (jd k_Mod_weight 13 rfl) rfl (fun h7 => ?_) (fun h7 => ?_)
        · rw [if_pos h7] at H
          refine j_iload (pc := 30) 4 (jd k_Mod_weight 15 rfl) rfl ?_
          refine j_iload_n (pc := 32) 2 (jd k_Mod_weight 16 rfl) rfl ?_
          refine j_isub (pc := 33) (jd k_Mod_weight 17 rfl) ?_
          refine j_aload_n (pc := 34) 0 (jd k_Mod_weight 18 rfl) rfl ?_
          refine j_get (pc := 35) (fs := flR ad s) (v := .int (s 10 0)) fl_Mod_213_10 0 (jd k_Mod_weight 19 rfl) rfl rfl ?_
          refine j_iadd (pc := 38) (jd k_Mod_weight 20 rfl) ?_
          refine j_aload_n (pc := 39) 0 (jd k_Mod_weight 21 rfl) rfl ?_
          refine j_get (pc := 40) (fs := flR ad s) (v := .int (s 10 0)) fl_Mod_213_10 0 (jd k_Mod_weight 22 rfl) rfl rfl ?_
          obtain ⟨h8, H⟩ := ochk H
          refine j_irem (pc := 43) (jd k_Mod_weight 23 rfl) h8 ?_
          obtain ⟨x9, e21, H⟩ := olet H
          refine j_topi e21 ?_
          refine j_istore (pc := 44) (lv' := [(0, .ref (ad 0)), (1, .int p0), (2, .int p1), (3, .int x1), (4, .int x2), (5, .int x9)]) (jd k_Mod_weight 24 rfl) rfl (Nat.le_of_ble_eq_true rfl) rfl ?_
          refine j_iconst (pc := 46) (v := 0) (jd k_Mod_weight 25 rfl) (by decide) ?_
          refine j_istore (pc := 47) (lv' := [(0, .ref (ad 0)), (1, .int p0), (2, .int p1), (3, .int x1), (4, .int x2), (5, .int x9), (6, .int 0)]) (jd k_Mod_weight 26 rfl) rfl (Nat.le_of_ble_eq_true rfl) rfl ?_
          obtain ⟨x16, h17, H⟩ := obnd H
          refine lp_Mod_weight_49 p0 p1 s x1 x2 x9 jF 0 _ h17 ?_
          refine j_pick (lv' := [(0, .ref (ad 0)), (1, .int p0), (2, .int p1), (3, .int x1), (4, .int x2), (6, .int x16)]) [0, 1, 2, 3, 4, 6] rfl ?_
          refine j_iload_n (pc := 75) 3 (jd k_Mod_weight 40 rfl) rfl ?_
          refine j_iload (pc := 76) 5 (jd k_Mod_weight 41 rfl) rfl ?_
          refine j_imul (pc := 78) (jd k_Mod_weight 42 rfl) ?_
          refine j_aload_n (pc := 79) 0 (jd k_Mod_weight 43 rfl) rfl ?_
          refine j_get (pc := 80) (fs := flR ad s) (v := .int (s 10 0)) fl_Mod_213_10 0 (jd k_Mod_weight 44 rfl) rfl rfl ?_
          obtain ⟨h18, H⟩ := ochk H
          refine j_irem (pc := 83) (jd k_Mod_weight 45 rfl) h18 ?_
          obtain ⟨x19, e20, H⟩ := olet H
          refine j_topi e20 ?_
          refine j_istore_n (pc := 84) (lv' := [(0, .ref (ad 0)), (1, .int p0), (2, .int p1), (3, .int x19), (4, .int x2), (6, .int x16)]) (jd k_Mod_weight 46 rfl) rfl (Nat.le_of_ble_eq_true rfl) rfl ?_
          cases H
          exact j_pick [0, 1, 2, 3, 4] rfl K24
        · rw [if_neg (not_not_intro h7)] at H
          refine j_goto (pc := 27) (tgt := 85) (jd k_Mod_weight 14 rfl) rfl ?_
          cases H
          exact K24

set_option maxRecDepth 20000 in
theorem c_Mod_weight (ad : Nat → Nat) (G : jG) (p0 : Int32) (p1 : Int32) (s : jS) (r : Int32) (H : f_Mod_weight p0 p1 s = some r) : jCon G m_Mod_weight y_Mod_weight 1 0 0 [.ref (ad 0), .int p0, .int p1] (mkR ad G s) (jEq (some (.int r)) (mkR ad G s)) := by
  refine jCon.of (by decide +kernel) rfl rfl rfl (Nat.le_of_ble_eq_true rfl) rfl ?_
  have H : (
  Option.bind (L_Mod_weight_5 p0 p1 s jF 1 1) fun (x27, x28) =>
  some x27) = some r := H
  generalize hP9 : jEq (some (.int r)) (mkR ad G s) = P
  refine j_iconst (pc := 0) (v := 1) (jd k_Mod_weight 0 rfl) (by decide) ?_
  refine j_istore_n (pc := 1) (lv' := [(0, .ref (ad 0)), (1, .int p0), (2, .int p1), (3, .int 1)]) (jd k_Mod_weight 1 rfl) rfl (Nat.le_of_ble_eq_true rfl) rfl ?_
  refine j_iconst (pc := 2) (v := 1) (jd k_Mod_weight 2 rfl) (by decide) ?_
  refine j_istore (pc := 3) (lv' := [(0, .ref (ad 0)), (1, .int p0), (2, .int p1), (3, .int 1), (4, .int 1)]) (jd k_Mod_weight 3 rfl) rfl (Nat.le_of_ble_eq_true rfl) rfl ?_
  obtain ⟨⟨x27, x28⟩, h29, H⟩ := obnd H
  try dsimp only at H
  refine lp_Mod_weight_5 p0 p1 s jF 1 1 _ h29 ?_
  refine j_pick (lv' := [(3, .int x27)]) [3] rfl ?_
  refine j_iload_n (pc := 91) 0 (jd k_Mod_weight 49 rfl) rfl ?_
  cases H
  subst hP9
  exact j_iret (pc := 92) (jd k_Mod_weight 50 rfl) rfl rfl ⟨rfl, rfl⟩

set_option maxRecDepth 20000 in
theorem lp_Mod_atZero_4 {ad : Nat → Nat} {G : jG} {P : jR → va_W → Prop} (p0 : Int32) (s : jS) : ∀ (n : Nat) (x1 : Int32) (x2 : Int32) (r : Int32 × Int32), L_Mod_atZero_4 p0 s n x1 x2 = some r → J G m_Mod_atZero 2 0 0 P 51 [(0, .ref (ad 0)), (1, .int p0), (2, .int r.1), (3, .int r.2)] [] (mkR ad G s) 0 0 → J G m_Mod_atZero 2 0 0 P 4 [(0, .ref (ad 0)), (1, .int p0), (2, .int x1), (3, .int x2)] [] (mkR ad G s) 0 0 := by
  intro n
  induction n with
  | zero =>
    intro x1 x2 r H
    cases (show none = some r from H)
  | succ n ih =>
    intro x1 x2 r H kx
    have H : (
    if 8 ≤ x2 then
      some (x1, x2)
    else
      Option.bind (f_Mod_in p0 x2) fun x4 =>
      Option.bind (α := Int32) (
        if x4 = 0 then
          some x1
        else
          Option.bind (f_Mod_weight p0 x2 s) fun x7 =>
          if jin (x2 - 1) 7 then
          if ¬ (s 10 0) = 0 then
          some (jrem (x1 + (x7 * (s 38 (x2 - 1).toNatClampNeg))) (s 10 0))
          else none
          else none) fun x11 =>
      jlet (x2 + 1) fun x14 =>
      L_Mod_atZero_4 p0 s n x11 x14) = some r := H
    refine j_iload_n (pc := 4) 3 (jd k_Mod_atZero 4 rfl) rfl ?_
    refine j_bipush (pc := 5) (v := 8) (jd k_Mod_atZero 5 rfl) (by decide) ?_
    refine j_icmp_ge (pc := 7) (tgt := 51) (jd k_Mod_atZero 6 rfl) rfl (fun h3 => ?_) (fun h3 => ?_)
    · rw [if_pos h3] at H
      cases H
      exact kx
    · rw [if_neg h3] at H
      refine j_iload_n (pc := 10) 1 (jd k_Mod_atZero 7 rfl) rfl ?_
      refine j_iload_n (pc := 11) 3 (jd k_Mod_atZero 8 rfl) rfl ?_
      obtain ⟨x4, h5, H⟩ := obnd H
      refine jc_S (pc := 12) (st := []) (c_Mod_in G _ p0 x2 _ h5) L0_Mod_in w1384 w1385 (jd k_Mod_atZero 9 rfl) rfl (Nat.le_of_ble_eq_true rfl) (by decide) (Nat.le_refl _) (Nat.le_refl _) rfl rfl ?_
      obtain ⟨x11, h12, H⟩ := obnd H
      have K13 : J G m_Mod_atZero 2 0 0 P 44 [(0, .ref (ad 0)), (1, .int p0), (3, .int x2)] [.int x11] (mkR ad G s) 0 0 := by
        refine j_istore_n (pc := 44) (lv' := [(0, .ref (ad 0)), (1, .int p0), (2, .int x11), (3, .int x2)]) (jd k_Mod_atZero 29 rfl) rfl (Nat.le_of_ble_eq_true rfl) rfl ?_
        obtain ⟨x14, e15, H⟩ := olet H
        refine j_iinc (pc := 45) (lv' := [(0, .ref (ad 0)), (1, .int p0), (2, .int x11), (3, .int x14)]) 3 (jd k_Mod_atZero 30 rfl) rfl e15 rfl (Nat.le_of_ble_eq_true rfl) rfl ?_
        refine j_goto (pc := 48) (tgt := 4) (jd k_Mod_atZero 31 rfl) rfl ?_
        exact ih x11 x14 _ H kx
      have H := h12
      refine j_if_eq (pc := 15) (tgt := 43) (jd k_Mod_atZero 10 rfl) rfl (fun h6 => ?_) (fun h6 => ?_)
      · rw [if_pos h6] at H
        refine j_iload_n (pc := 43) 2 (jd k_Mod_atZero 28 rfl) rfl ?_
        cases H
        exact j_pick [0, 1, 3] rfl K13
      · rw [if_neg h6] at H
        refine j_iload_n (pc := 18) 2 (jd k_Mod_atZero 11 rfl) rfl ?_
        refine j_aload_n (pc := 19) 0 (jd k_Mod_atZero 12 rfl) rfl ?_
        refine j_iload_n (pc := 20) 1 (jd k_Mod_atZero 13 rfl) rfl ?_
        refine j_iload_n (pc := 21) 3 (jd k_Mod_atZero 14 rfl) rfl ?_
        obtain ⟨x7, h8, H⟩ := obnd H
        refine jc_V (pc := 22) (st := [.int x1]) (c_Mod_weight ad G p0 x2 s _ h8) L0_Mod_weight w1422 w1424 w56 0 rfl rfl (jd k_Mod_atZero 15 rfl) rfl (Nat.le_of_ble_eq_true rfl) (by decide) (Nat.le_refl _) (Nat.le_refl _) rfl rfl ?_
        refine j_aload_n (pc := 25) 0 (jd k_Mod_atZero 16 rfl) rfl ?_
        refine j_get (pc := 26) (fs := flR ad s) (v := .ref (ad 21)) fl_Mod_70_10 0 (jd k_Mod_atZero 17 rfl) rfl rfl ?_
        refine j_iload_n (pc := 29) 3 (jd k_Mod_atZero 18 rfl) rfl ?_
        refine j_iconst (pc := 30) (v := 1) (jd k_Mod_atZero 19 rfl) (by decide) ?_
        refine j_isub (pc := 31) (jd k_Mod_atZero 20 rfl) ?_
        obtain ⟨h9, H⟩ := ochk H
        refine j_iald (pc := 32) (f := s 38) 21 (jd k_Mod_atZero 21 rfl) rfl (jin.vp h9) ?_
        refine j_imul (pc := 33) (jd k_Mod_atZero 22 rfl) ?_
        refine j_iadd (pc := 34) (jd k_Mod_atZero 23 rfl) ?_
        refine j_aload_n (pc := 35) 0 (jd k_Mod_atZero 24 rfl) rfl ?_
        refine j_get (pc := 36) (fs := flR ad s) (v := .int (s 10 0)) fl_Mod_213_10 0 (jd k_Mod_atZero 25 rfl) rfl rfl ?_
        obtain ⟨h10, H⟩ := ochk H
        refine j_irem (pc := 39) (jd k_Mod_atZero 26 rfl) h10 ?_
        refine j_goto (pc := 40) (tgt := 44) (jd k_Mod_atZero 27 rfl) rfl ?_
        cases H
        exact j_pick [0, 1, 3] rfl K13

set_option maxRecDepth 20000 in
theorem c_Mod_atZero (ad : Nat → Nat) (G : jG) (p0 : Int32) (s : jS) (r : Int32) (H : f_Mod_atZero p0 s = some r) : jCon G m_Mod_atZero y_Mod_atZero 2 0 0 [.ref (ad 0), .int p0] (mkR ad G s) (jEq (some (.int r)) (mkR ad G s)) := by
  refine jCon.of (by decide +kernel) rfl rfl rfl (Nat.le_of_ble_eq_true rfl) rfl ?_
  have H : (
  Option.bind (L_Mod_atZero_4 p0 s jF 0 1) fun (x16, x17) =>
  some x16) = some r := H
  generalize hP9 : jEq (some (.int r)) (mkR ad G s) = P
  refine j_iconst (pc := 0) (v := 0) (jd k_Mod_atZero 0 rfl) (by decide) ?_
  refine j_istore_n (pc := 1) (lv' := [(0, .ref (ad 0)), (1, .int p0), (2, .int 0)]) (jd k_Mod_atZero 1 rfl) rfl (Nat.le_of_ble_eq_true rfl) rfl ?_
  refine j_iconst (pc := 2) (v := 1) (jd k_Mod_atZero 2 rfl) (by decide) ?_
  refine j_istore_n (pc := 3) (lv' := [(0, .ref (ad 0)), (1, .int p0), (2, .int 0), (3, .int 1)]) (jd k_Mod_atZero 3 rfl) rfl (Nat.le_of_ble_eq_true rfl) rfl ?_
  obtain ⟨⟨x16, x17⟩, h18, H⟩ := obnd H
  try dsimp only at H
  refine lp_Mod_atZero_4 p0 s jF 0 1 _ h18 ?_
  refine j_pick (lv' := [(2, .int x16)]) [2] rfl ?_
  refine j_iload_n (pc := 51) 0 (jd k_Mod_atZero 32 rfl) rfl ?_
  cases H
  subst hP9
  exact j_iret (pc := 52) (jd k_Mod_atZero 33 rfl) rfl rfl ⟨rfl, rfl⟩

set_option maxRecDepth 20000 in
theorem lp_Mod_open_76_2 {ad : Nat → Nat} {G : jG} {P : jR → va_W → Prop} (x1 : Int32) (x2 : Int32) : ∀ (n : Nat) (x85 : Int32) (x86 : Int32) (s87 : jS) (r : Int32 × Int32 × jS), L_Mod_open_76_2 x2 n x85 x86 s87 = some r → J G m_Mod_open 3 0 0 P 219 [(0, .ref (ad 0)), (1, .int x1), (2, .int x2), (3, .int r.1), (4, .int r.2.1)] [] (mkR ad G r.2.2) 0 0 → J G m_Mod_open 3 0 0 P 76 [(0, .ref (ad 0)), (1, .int x1), (2, .int x2), (3, .int x85), (4, .int x86)] [] (mkR ad G s87) 0 0 := by
  intro n
  induction n with
  | zero =>
    intro x85 x86 s87 r H
    cases (show none = some r from H)
  | succ n ih =>
    intro x85 x86 s87 r H kx
    have H : (
    if (s87 11 0) < x86 then
      some (x85, x86, s87)
    else
      Option.bind (f_Mod_works x86 7 s87) fun x89 =>
      Option.bind (α := Int32 × jS) (
        if ¬ x89 = 0 then
          Option.bind (f_Mod_at x2 x86 s87) fun x92 =>
          if jin x92 49 then
          Option.bind (f_Mod_is x86 6 s87) fun x95 =>
          Option.bind (α := Int32) (
            if x95 = 0 then
              some 0
            else
              some 1) fun x98 =>
          if ¬ (s87 10 0) = 0 then
          jlet (jrem ((s87 30 x92.toNatClampNeg) + x98) (s87 10 0)) fun x102 =>
          Option.bind (f_Mod_at x2 x86 s87) fun x103 =>
          if jin x103 49 then
          Option.bind (f_Mod_showNumbers 7 x86 x2 x102 (s87 31 x103.toNatClampNeg) s87) fun s106 =>
          Option.bind (f_Mod_at x2 x86 s106) fun x108 =>
          if jin x108 49 then
          Option.bind (f_Mod_fits x2 x86 x102 (s106 31 x108.toNatClampNeg) s106) fun x111 =>
          if x111 = 0 then
            some (x85, s106)
          else
            Option.bind (f_Mod_bits x85) fun x114 =>
            if (s106 12 0) ≤ x114 then
              some (x85, s106)
            else
              jlet (x85 ||| (1 <<< ((x86 - 1) &&& 31))) fun x117 =>
              if jin (x86 - 1) 7 then
              jlet (va_up s106 38 (upd (s106 38) (x86 - 1).toNatClampNeg x102)) fun s118 =>
              some (x117, s118)
              else none
          else none
          else none
          else none
          else none
        else
          some (x85, s87)) fun (x123, s124) =>
      jlet (x86 + 1) fun x127 =>
      L_Mod_open_76_2 x2 n x123 x127 s124) = some r := H
    refine j_iload (pc := 76) 4 (jd k_Mod_open 43 rfl) rfl ?_
    refine j_aload_n (pc := 78) 0 (jd k_Mod_open 44 rfl) rfl ?_
    refine j_get (pc := 79) (fs := flR ad s87) (v := .int (s87 11 0)) fl_Mod_207_10 0 (jd k_Mod_open 45 rfl) rfl rfl ?_
    refine j_icmp_gt (pc := 82) (tgt := 219) (jd k_Mod_open 46 rfl) rfl (fun h88 => ?_) (fun h88 => ?_)
    · rw [if_pos h88] at H
      cases H
      exact kx
    · rw [if_neg h88] at H
      refine j_aload_n (pc := 85) 0 (jd k_Mod_open 47 rfl) rfl ?_
      refine j_iload (pc := 86) 4 (jd k_Mod_open 48 rfl) rfl ?_
      refine j_bipush (pc := 88) (v := 7) (jd k_Mod_open 49 rfl) (by decide) ?_
      obtain ⟨x89, h90, H⟩ := obnd H
      refine jc_V (pc := 90) (st := []) (c_Mod_works ad G x86 7 s87 _ h90) L0_Mod_works w1344 w1346 w38 0 rfl rfl (jd k_Mod_open 50 rfl) rfl (Nat.le_of_ble_eq_true rfl) (by decide) (Nat.le_refl _) (Nat.le_refl _) rfl rfl ?_
      obtain ⟨⟨x123, s124⟩, h125, H⟩ := obnd H
      try dsimp only at H
      have K126 : J G m_Mod_open 3 0 0 P 213 [(0, .ref (ad 0)), (1, .int x1), (2, .int x2), (3, .int x123), (4, .int x86)] [] (mkR ad G s124) 0 0 := by
        obtain ⟨x127, e128, H⟩ := olet H
        refine j_iinc (pc := 213) (lv' := [(0, .ref (ad 0)), (1, .int x1), (2, .int x2), (3, .int x123), (4, .int x127)]) 4 (jd k_Mod_open 119 rfl) rfl e128 rfl (Nat.le_of_ble_eq_true rfl) rfl ?_
        refine j_goto (pc := 216) (tgt := 76) (jd k_Mod_open 120 rfl) rfl ?_
        exact ih x123 x127 s124 _ H kx
      have H := h125
      refine j_if_ne (pc := 93) (tgt := 99) (jd k_Mod_open 51 rfl) rfl (fun h91 => ?_) (fun h91 => ?_)
      · rw [if_pos h91] at H
        refine j_aload_n (pc := 99) 0 (jd k_Mod_open 53 rfl) rfl ?_
        refine j_get (pc := 100) (fs := flR ad s87) (v := .ref (ad 13)) fl_Mod_46_10 0 (jd k_Mod_open 54 rfl) rfl rfl ?_
        refine j_aload_n (pc := 103) 0 (jd k_Mod_open 55 rfl) rfl ?_
        refine j_iload_n (pc := 104) 2 (jd k_Mod_open 56 rfl) rfl ?_
        refine j_iload (pc := 105) 4 (jd k_Mod_open 57 rfl) rfl ?_
        obtain ⟨x92, h93, H⟩ := obnd H
        refine jc_V (pc := 107) (st := [.ref (ad 13)]) (c_Mod_at ad G x2 x86 s87 _ h93) L0_Mod_at w1364 w1366 w43 0 rfl rfl (jd k_Mod_open 58 rfl) rfl (Nat.le_of_ble_eq_true rfl) (by decide) (Nat.le_refl _) (Nat.le_refl _) rfl rfl ?_
        obtain ⟨h94, H⟩ := ochk H
        refine j_iald (pc := 110) (f := s87 30) 13 (jd k_Mod_open 59 rfl) rfl (jin.vp h94) ?_
        refine j_aload_n (pc := 111) 0 (jd k_Mod_open 60 rfl) rfl ?_
        refine j_iload (pc := 112) 4 (jd k_Mod_open 61 rfl) rfl ?_
        refine j_bipush (pc := 114) (v := 6) (jd k_Mod_open 62 rfl) (by decide) ?_
        obtain ⟨x95, h96, H⟩ := obnd H
        refine jc_V (pc := 116) (st := [.int (s87 30 x92.toNatClampNeg)]) (c_Mod_is ad G x86 6 s87 _ h96) L0_Mod_is w1348 w1350 w39 0 rfl rfl (jd k_Mod_open 63 rfl) rfl (Nat.le_of_ble_eq_true rfl) (by decide) (Nat.le_refl _) (Nat.le_refl _) rfl rfl ?_
        obtain ⟨x98, h99, H⟩ := obnd H
        have K100 : J G m_Mod_open 3 0 0 P 127 [(0, .ref (ad 0)), (1, .int x1), (2, .int x2), (3, .int x85), (4, .int x86)] [.int x98, .int (s87 30 x92.toNatClampNeg)] (mkR ad G s87) 0 0 := by
          refine j_iadd (pc := 127) (jd k_Mod_open 68 rfl) ?_
          refine j_aload_n (pc := 128) 0 (jd k_Mod_open 69 rfl) rfl ?_
          refine j_get (pc := 129) (fs := flR ad s87) (v := .int (s87 10 0)) fl_Mod_213_10 0 (jd k_Mod_open 70 rfl) rfl rfl ?_
          obtain ⟨h101, H⟩ := ochk H
          refine j_irem (pc := 132) (jd k_Mod_open 71 rfl) h101 ?_
          obtain ⟨x102, e122, H⟩ := olet H
          refine j_topi e122 ?_
          refine j_istore (pc := 133) (lv' := [(0, .ref (ad 0)), (1, .int x1), (2, .int x2), (3, .int x85), (4, .int x86), (5, .int x102)]) (jd k_Mod_open 72 rfl) rfl (Nat.le_of_ble_eq_true rfl) rfl ?_
          refine j_aload_n (pc := 135) 0 (jd k_Mod_open 73 rfl) rfl ?_
          refine j_bipush (pc := 136) (v := 7) (jd k_Mod_open 74 rfl) (by decide) ?_
          refine j_iload (pc := 138) 4 (jd k_Mod_open 75 rfl) rfl ?_
          refine j_iload_n (pc := 140) 2 (jd k_Mod_open 76 rfl) rfl ?_
          refine j_iload (pc := 141) 5 (jd k_Mod_open 77 rfl) rfl ?_
          refine j_aload_n (pc := 143) 0 (jd k_Mod_open 78 rfl) rfl ?_
          refine j_get (pc := 144) (fs := flR ad s87) (v := .ref (ad 14)) fl_Mod_49_10 0 (jd k_Mod_open 79 rfl) rfl rfl ?_
          refine j_aload_n (pc := 147) 0 (jd k_Mod_open 80 rfl) rfl ?_
          refine j_iload_n (pc := 148) 2 (jd k_Mod_open 81 rfl) rfl ?_
          refine j_iload (pc := 149) 4 (jd k_Mod_open 82 rfl) rfl ?_
          obtain ⟨x103, h104, H⟩ := obnd H
          refine jc_V (pc := 151) (st := [.ref (ad 14), .int x102, .int x2, .int x86, .int 7, .ref (ad 0)]) (c_Mod_at ad G x2 x86 s87 _ h104) L0_Mod_at w1364 w1366 w43 0 rfl rfl (jd k_Mod_open 83 rfl) rfl (Nat.le_of_ble_eq_true rfl) (by decide) (Nat.le_refl _) (Nat.le_refl _) rfl rfl ?_
          obtain ⟨h105, H⟩ := ochk H
          refine j_iald (pc := 154) (f := s87 31) 14 (jd k_Mod_open 84 rfl) rfl (jin.vp h105) ?_
          obtain ⟨s106, h107, H⟩ := obnd H
          refine jc_V (pc := 155) (st := []) (c_Mod_showNumbers ad G 7 x86 x2 x102 (s87 31 x103.toNatClampNeg) s87 _ h107) L0_Mod_showNumbers w1395 w1397 w50 0 rfl rfl (jd k_Mod_open 85 rfl) rfl (Nat.le_of_ble_eq_true rfl) (by decide) (Nat.le_refl _) (Nat.le_refl _) rfl rfl ?_
          refine j_aload_n (pc := 158) 0 (jd k_Mod_open 86 rfl) rfl ?_
          refine j_iload_n (pc := 159) 2 (jd k_Mod_open 87 rfl) rfl ?_
          refine j_iload (pc := 160) 4 (jd k_Mod_open 88 rfl) rfl ?_
          refine j_iload (pc := 162) 5 (jd k_Mod_open 89 rfl) rfl ?_
          refine j_aload_n (pc := 164) 0 (jd k_Mod_open 90 rfl) rfl ?_
          refine j_get (pc := 165) (fs := flR ad s106) (v := .ref (ad 14)) fl_Mod_49_10 0 (jd k_Mod_open 91 rfl) rfl rfl ?_
          refine j_aload_n (pc := 168) 0 (jd k_Mod_open 92 rfl) rfl ?_
          refine j_iload_n (pc := 169) 2 (jd k_Mod_open 93 rfl) rfl ?_
          refine j_iload (pc := 170) 4 (jd k_Mod_open 94 rfl) rfl ?_
          obtain ⟨x108, h109, H⟩ := obnd H
          refine jc_V (pc := 172) (st := [.ref (ad 14), .int x102, .int x86, .int x2, .ref (ad 0)]) (c_Mod_at ad G x2 x86 s106 _ h109) L0_Mod_at w1364 w1366 w43 0 rfl rfl (jd k_Mod_open 95 rfl) rfl (Nat.le_of_ble_eq_true rfl) (by decide) (Nat.le_refl _) (Nat.le_refl _) rfl rfl ?_
          obtain ⟨h110, H⟩ := ochk H
          refine j_iald (pc := 175) (f := s106 31) 14 (jd k_Mod_open 96 rfl) rfl (jin.vp h110) ?_
          obtain ⟨x111, h112, H⟩ := obnd H
          refine jc_V (pc := 176) (st := []) (c_Mod_fits ad G x2 x86 x102 (s106 31 x108.toNatClampNeg) s106 _ h112) L0_Mod_fits w1387 w1389 w48 0 rfl rfl (jd k_Mod_open 97 rfl) rfl (Nat.le_of_ble_eq_true rfl) (by decide) (Nat.le_refl _) (Nat.le_refl _) rfl rfl ?_
          refine j_if_eq (pc := 179) (tgt := 213) (jd k_Mod_open 98 rfl) rfl (fun h113 => ?_) (fun h113 => ?_)
          · rw [if_pos h113] at H
            cases H
            exact j_pick [0, 1, 2, 3, 4] rfl K126
          · rw [if_neg h113] at H
            refine j_iload_n (pc := 182) 3 (jd k_Mod_open 99 rfl) rfl ?_
            obtain ⟨x114, h115, H⟩ := obnd H
            refine jc_S (pc := 183) (st := []) (c_Mod_bits G _ x85 _ h115) L0_Mod_bits w1403 w1404 (jd k_Mod_open 100 rfl) rfl (Nat.le_of_ble_eq_true rfl) (by decide) (Nat.le_refl _) (Nat.le_refl _) rfl rfl ?_
            refine j_aload_n (pc := 186) 0 (jd k_Mod_open 101 rfl) rfl ?_
            refine j_get (pc := 187) (fs := flR ad s106) (v := .int (s106 12 0)) fl_Mod_216_10 0 (jd k_Mod_open 102 rfl) rfl rfl ?_
            refine j_icmp_ge (pc := 190) (tgt := 213) (jd k_Mod_open 103 rfl) rfl (fun h116 => ?_) (fun h116 => ?_)
            · rw [if_pos h116] at H
              cases H
              exact j_pick [0, 1, 2, 3, 4] rfl K126
            · rw [if_neg h116] at H
              refine j_iload_n (pc := 193) 3 (jd k_Mod_open 104 rfl) rfl ?_
              refine j_iconst (pc := 194) (v := 1) (jd k_Mod_open 105 rfl) (by decide) ?_
              refine j_iload (pc := 195) 4 (jd k_Mod_open 106 rfl) rfl ?_
              refine j_iconst (pc := 197) (v := 1) (jd k_Mod_open 107 rfl) (by decide) ?_
              refine j_isub (pc := 198) (jd k_Mod_open 108 rfl) ?_
              refine j_ishl (pc := 199) (jd k_Mod_open 109 rfl) ?_
              refine j_ior (pc := 200) (jd k_Mod_open 110 rfl) ?_
              obtain ⟨x117, e121, H⟩ := olet H
              refine j_topi e121 ?_
              refine j_istore_n (pc := 201) (lv' := [(0, .ref (ad 0)), (1, .int x1), (2, .int x2), (3, .int x117), (4, .int x86), (5, .int x102)]) (jd k_Mod_open 111 rfl) rfl (Nat.le_of_ble_eq_true rfl) rfl ?_
              refine j_aload_n (pc := 202) 0 (jd k_Mod_open 112 rfl) rfl ?_
              refine j_get (pc := 203) (fs := flR ad s106) (v := .ref (ad 21)) fl_Mod_70_10 0 (jd k_Mod_open 113 rfl) rfl rfl ?_
              refine j_iload (pc := 206) 4 (jd k_Mod_open 114 rfl) rfl ?_
              refine j_iconst (pc := 208) (v := 1) (jd k_Mod_open 115 rfl) (by decide) ?_
              refine j_isub (pc := 209) (jd k_Mod_open 116 rfl) ?_
              refine j_iload (pc := 210) 5 (jd k_Mod_open 117 rfl) rfl ?_
              obtain ⟨h120, H⟩ := ochk H
              obtain ⟨s118, e119, H⟩ := olet H
              refine j_iast (pc := 212) (f := s106 38) 21 (jd k_Mod_open 118 rfl) rfl (jin.vp h120) ((waR_38 ad G s106 _).trans (congrArg (mkR ad G) e119)) ?_
              cases H
              exact j_pick [0, 1, 2, 3, 4] rfl K126
        have H := h99
        refine j_if_eq (pc := 119) (tgt := 126) (jd k_Mod_open 64 rfl) rfl (fun h97 => ?_) (fun h97 => ?_)
        · rw [if_pos h97] at H
          refine j_iconst (pc := 126) (v := 0) (jd k_Mod_open 67 rfl) (by decide) ?_
          cases H
          exact K100
        · rw [if_neg h97] at H
          refine j_iconst (pc := 122) (v := 1) (jd k_Mod_open 65 rfl) (by decide) ?_
          refine j_goto (pc := 123) (tgt := 127) (jd k_Mod_open 66 rfl) rfl ?_
          cases H
          exact K100
      · rw [if_neg (not_not_intro h91)] at H
        refine j_goto (pc := 96) (tgt := 213) (jd k_Mod_open 52 rfl) rfl ?_
        cases H
        exact K126

set_option maxRecDepth 20000 in
theorem lp_Mod_open_76 {ad : Nat → Nat} {G : jG} {P : jR → va_W → Prop} (x1 : Int32) (x2 : Int32) : ∀ (n : Nat) (x11 : Int32) (x12 : Int32) (s13 : jS) (r : Int32 × Int32 × jS), L_Mod_open_76 x2 n x11 x12 s13 = some r → J G m_Mod_open 3 0 0 P 219 [(0, .ref (ad 0)), (1, .int x1), (2, .int x2), (3, .int r.1), (4, .int r.2.1)] [] (mkR ad G r.2.2) 0 0 → J G m_Mod_open 3 0 0 P 76 [(0, .ref (ad 0)), (1, .int x1), (2, .int x2), (3, .int x11), (4, .int x12)] [] (mkR ad G s13) 0 0 := by
  intro n
  induction n with
  | zero =>
    intro x11 x12 s13 r H
    cases (show none = some r from H)
  | succ n ih =>
    intro x11 x12 s13 r H kx
    have H : (
    if (s13 11 0) < x12 then
      some (x11, x12, s13)
    else
      Option.bind (f_Mod_works x12 7 s13) fun x15 =>
      Option.bind (α := Int32 × jS) (
        if ¬ x15 = 0 then
          Option.bind (f_Mod_at x2 x12 s13) fun x18 =>
          if jin x18 49 then
          Option.bind (f_Mod_is x12 6 s13) fun x21 =>
          Option.bind (α := Int32) (
            if x21 = 0 then
              some 0
            else
              some 1) fun x24 =>
          if ¬ (s13 10 0) = 0 then
          jlet (jrem ((s13 30 x18.toNatClampNeg) + x24) (s13 10 0)) fun x28 =>
          Option.bind (f_Mod_at x2 x12 s13) fun x29 =>
          if jin x29 49 then
          Option.bind (f_Mod_showNumbers 7 x12 x2 x28 (s13 31 x29.toNatClampNeg) s13) fun s32 =>
          Option.bind (f_Mod_at x2 x12 s32) fun x34 =>
          if jin x34 49 then
          Option.bind (f_Mod_fits x2 x12 x28 (s32 31 x34.toNatClampNeg) s32) fun x37 =>
          if x37 = 0 then
            some (x11, s32)
          else
            Option.bind (f_Mod_bits x11) fun x40 =>
            if (s32 12 0) ≤ x40 then
              some (x11, s32)
            else
              jlet (x11 ||| (1 <<< ((x12 - 1) &&& 31))) fun x43 =>
              if jin (x12 - 1) 7 then
              jlet (va_up s32 38 (upd (s32 38) (x12 - 1).toNatClampNeg x28)) fun s44 =>
              some (x43, s44)
              else none
          else none
          else none
          else none
          else none
        else
          some (x11, s13)) fun (x49, s50) =>
      jlet (x12 + 1) fun x53 =>
      L_Mod_open_76 x2 n x49 x53 s50) = some r := H
    refine j_iload (pc := 76) 4 (jd k_Mod_open 43 rfl) rfl ?_
    refine j_aload_n (pc := 78) 0 (jd k_Mod_open 44 rfl) rfl ?_
    refine j_get (pc := 79) (fs := flR ad s13) (v := .int (s13 11 0)) fl_Mod_207_10 0 (jd k_Mod_open 45 rfl) rfl rfl ?_
    refine j_icmp_gt (pc := 82) (tgt := 219) (jd k_Mod_open 46 rfl) rfl (fun h14 => ?_) (fun h14 => ?_)
    · rw [if_pos h14] at H
      cases H
      exact kx
    · rw [if_neg h14] at H
      refine j_aload_n (pc := 85) 0 (jd k_Mod_open 47 rfl) rfl ?_
      refine j_iload (pc := 86) 4 (jd k_Mod_open 48 rfl) rfl ?_
      refine j_bipush (pc := 88) (v := 7) (jd k_Mod_open 49 rfl) (by decide) ?_
      obtain ⟨x15, h16, H⟩ := obnd H
      refine jc_V (pc := 90) (st := []) (c_Mod_works ad G x12 7 s13 _ h16) L0_Mod_works w1344 w1346 w38 0 rfl rfl (jd k_Mod_open 50 rfl) rfl (Nat.le_of_ble_eq_true rfl) (by decide) (Nat.le_refl _) (Nat.le_refl _) rfl rfl ?_
      obtain ⟨⟨x49, s50⟩, h51, H⟩ := obnd H
      try dsimp only at H
      have K52 : J G m_Mod_open 3 0 0 P 213 [(0, .ref (ad 0)), (1, .int x1), (2, .int x2), (3, .int x49), (4, .int x12)] [] (mkR ad G s50) 0 0 := by
        obtain ⟨x53, e54, H⟩ := olet H
        refine j_iinc (pc := 213) (lv' := [(0, .ref (ad 0)), (1, .int x1), (2, .int x2), (3, .int x49), (4, .int x53)]) 4 (jd k_Mod_open 119 rfl) rfl e54 rfl (Nat.le_of_ble_eq_true rfl) rfl ?_
        refine j_goto (pc := 216) (tgt := 76) (jd k_Mod_open 120 rfl) rfl ?_
        exact ih x49 x53 s50 _ H kx
      have H := h51
      refine j_if_ne (pc := 93) (tgt := 99) (jd k_Mod_open 51 rfl) rfl (fun h17 => ?_) (fun h17 => ?_)
      · rw [if_pos h17] at H
        refine j_aload_n (pc := 99) 0 (jd k_Mod_open 53 rfl) rfl ?_
        refine j_get (pc := 100) (fs := flR ad s13) (v := .ref (ad 13)) fl_Mod_46_10 0 (jd k_Mod_open 54 rfl) rfl rfl ?_
        refine j_aload_n (pc := 103) 0 (jd k_Mod_open 55 rfl) rfl ?_
        refine j_iload_n (pc := 104) 2 (jd k_Mod_open 56 rfl) rfl ?_
        refine j_iload (pc := 105) 4 (jd k_Mod_open 57 rfl) rfl ?_
        obtain ⟨x18, h19, H⟩ := obnd H
        refine jc_V (pc := 107) (st := [.ref (ad 13)]) (c_Mod_at ad G x2 x12 s13 _ h19) L0_Mod_at w1364 w1366 w43 0 rfl rfl (jd k_Mod_open 58 rfl) rfl (Nat.le_of_ble_eq_true rfl) (by decide) (Nat.le_refl _) (Nat.le_refl _) rfl rfl ?_
        obtain ⟨h20, H⟩ := ochk H
        refine j_iald (pc := 110) (f := s13 30) 13 (jd k_Mod_open 59 rfl) rfl (jin.vp h20) ?_
        refine j_aload_n (pc := 111) 0 (jd k_Mod_open 60 rfl) rfl ?_
        refine j_iload (pc := 112) 4 (jd k_Mod_open 61 rfl) rfl ?_
        refine j_bipush (pc := 114) (v := 6) (jd k_Mod_open 62 rfl) (by decide) ?_
        obtain ⟨x21, h22, H⟩ := obnd H
        refine jc_V (pc := 116) (st := [.int (s13 30 x18.toNatClampNeg)]) (c_Mod_is ad G x12 6 s13 _ h22) L0_Mod_is w1348 w1350 w39 0 rfl rfl (jd k_Mod_open 63 rfl) rfl (Nat.le_of_ble_eq_true rfl) (by decide) (Nat.le_refl _) (Nat.le_refl _) rfl rfl ?_
        obtain ⟨x24, h25, H⟩ := obnd H
        have K26 : J G m_Mod_open 3 0 0 P 127 [(0, .ref (ad 0)), (1, .int x1), (2, .int x2), (3, .int x11), (4, .int x12)] [.int x24, .int (s13 30 x18.toNatClampNeg)] (mkR ad G s13) 0 0 := by
          refine j_iadd (pc := 127) (jd k_Mod_open 68 rfl) ?_
          refine j_aload_n (pc := 128) 0 (jd k_Mod_open 69 rfl) rfl ?_
          refine j_get (pc := 129) (fs := flR ad s13) (v := .int (s13 10 0)) fl_Mod_213_10 0 (jd k_Mod_open 70 rfl) rfl rfl ?_
          obtain ⟨h27, H⟩ := ochk H
          refine j_irem (pc := 132) (jd k_Mod_open 71 rfl) h27 ?_
          obtain ⟨x28, e48, H⟩ := olet H
          refine j_topi e48 ?_
          refine j_istore (pc := 133) (lv' := [(0, .ref (ad 0)), (1, .int x1), (2, .int x2), (3, .int x11), (4, .int x12), (5, .int x28)]) (jd k_Mod_open 72 rfl) rfl (Nat.le_of_ble_eq_true rfl) rfl ?_
          refine j_aload_n (pc := 135) 0 (jd k_Mod_open 73 rfl) rfl ?_
          refine j_bipush (pc := 136) (v := 7) (jd k_Mod_open 74 rfl) (by decide) ?_
          refine j_iload (pc := 138) 4 (jd k_Mod_open 75 rfl) rfl ?_
          refine j_iload_n (pc := 140) 2 (jd k_Mod_open 76 rfl) rfl ?_
          refine j_iload (pc := 141) 5 (jd k_Mod_open 77 rfl) rfl ?_
          refine j_aload_n (pc := 143) 0 (jd k_Mod_open 78 rfl) rfl ?_
          refine j_get (pc := 144) (fs := flR ad s13) (v := .ref (ad 14)) fl_Mod_49_10 0 (jd k_Mod_open 79 rfl) rfl rfl ?_
          refine j_aload_n (pc := 147) 0 (jd k_Mod_open 80 rfl) rfl ?_
          refine j_iload_n (pc := 148) 2 (jd k_Mod_open 81 rfl) rfl ?_
          refine j_iload (pc := 149) 4 (jd k_Mod_open 82 rfl) rfl ?_
          obtain ⟨x29, h30, H⟩ := obnd H
          refine jc_V (pc := 151) (st := [.ref (ad 14), .int x28, .int x2, .int x12, .int 7, .ref (ad 0)]) (c_Mod_at ad G x2 x12 s13 _ h30) L0_Mod_at w1364 w1366 w43 0 rfl rfl (jd k_Mod_open 83 rfl) rfl (Nat.le_of_ble_eq_true rfl) (by decide) (Nat.le_refl _) (Nat.le_refl _) rfl rfl ?_
          obtain ⟨h31, H⟩ := ochk H
          refine j_iald (pc := 154) (f := s13 31) 14 (jd k_Mod_open 84 rfl) rfl (jin.vp h31) ?_
          obtain ⟨s32, h33, H⟩ := obnd H
          refine jc_V (pc := 155) (st := []) (c_Mod_showNumbers ad G 7 x12 x2 x28 (s13 31 x29.toNatClampNeg) s13 _ h33) L0_Mod_showNumbers w1395 w1397 w50 0 rfl rfl (jd k_Mod_open 85 rfl) rfl (Nat.le_of_ble_eq_true rfl) (by decide) (Nat.le_refl _) (Nat.le_refl _) rfl rfl ?_
          refine j_aload_n (pc := 158) 0 (jd k_Mod_open 86 rfl) rfl ?_
          refine j_iload_n (pc := 159) 2 (jd k_Mod_open 87 rfl) rfl ?_
          refine j_iload (pc := 160) 4 (jd k_Mod_open 88 rfl) rfl ?_
          refine j_iload (pc := 162) 5 (jd k_Mod_open 89 rfl) rfl ?_
          refine j_aload_n (pc := 164) 0 (jd k_Mod_open 90 rfl) rfl ?_
          refine j_get (pc := 165) (fs := flR ad s32) (v := .ref (ad 14)) fl_Mod_49_10 0 (jd k_Mod_open 91 rfl) rfl rfl ?_
          refine j_aload_n (pc := 168) 0 (jd k_Mod_open 92 rfl) rfl ?_
          refine j_iload_n (pc := 169) 2 (jd k_Mod_open 93 rfl) rfl ?_
          refine j_iload (pc := 170) 4 (jd k_Mod_open 94 rfl) rfl ?_
          obtain ⟨x34, h35, H⟩ := obnd H
          refine jc_V (pc := 172) (st := [.ref (ad 14), .int x28, .int x12, .int x2, .ref (ad 0)]) (c_Mod_at ad G x2 x12 s32 _ h35) L0_Mod_at w1364 w1366 w43 0 rfl rfl (jd k_Mod_open 95 rfl) rfl (Nat.le_of_ble_eq_true rfl) (by decide) (Nat.le_refl _) (Nat.le_refl _) rfl rfl ?_
          obtain ⟨h36, H⟩ := ochk H
          refine j_iald (pc := 175) (f := s32 31) 14 (jd k_Mod_open 96 rfl) rfl (jin.vp h36) ?_
          obtain ⟨x37, h38, H⟩ := obnd H
          refine jc_V (pc := 176) (st := []) (c_Mod_fits ad G x2 x12 x28 (s32 31 x34.toNatClampNeg) s32 _ h38) L0_Mod_fits w1387 w1389 w48 0 rfl rfl (jd k_Mod_open 97 rfl) rfl (Nat.le_of_ble_eq_true rfl) (by decide) (Nat.le_refl _) (Nat.le_refl _) rfl rfl ?_
          refine j_if_eq (pc := 179) (tgt := 213) (jd k_Mod_open 98 rfl) rfl (fun h39 => ?_) (fun h39 => ?_)
          · rw [if_pos h39] at H
            cases H
            exact j_pick [0, 1, 2, 3, 4] rfl K52
          · rw [if_neg h39] at H
            refine j_iload_n (pc := 182) 3 (jd k_Mod_open 99 rfl) rfl ?_
            obtain ⟨x40, h41, H⟩ := obnd H
            refine jc_S (pc := 183) (st := []) (c_Mod_bits G _ x11 _ h41) L0_Mod_bits w1403 w1404 (jd k_Mod_open 100 rfl) rfl (Nat.le_of_ble_eq_true rfl) (by decide) (Nat.le_refl _) (Nat.le_refl _) rfl rfl ?_
            refine j_aload_n (pc := 186) 0 (jd k_Mod_open 101 rfl) rfl ?_
            refine j_get (pc := 187) (fs := flR ad s32) (v := .int (s32 12 0)) fl_Mod_216_10 0 (jd k_Mod_open 102 rfl) rfl rfl ?_
            refine j_icmp_ge (pc := 190) (tgt := 213) (jd k_Mod_open 103 rfl) rfl (fun h42 => ?_) (fun h42 => ?_)
            · rw [if_pos h42] at H
              cases H
              exact j_pick [0, 1, 2, 3, 4] rfl K52
            · rw [if_neg h42] at H
              refine j_iload_n (pc := 193) 3 (jd k_Mod_open 104 rfl) rfl ?_
              refine j_iconst (pc := 194) (v := 1) (jd k_Mod_open 105 rfl) (by decide) ?_
              refine j_iload (pc := 195) 4 (jd k_Mod_open 106 rfl) rfl ?_
              refine j_iconst (pc := 197) (v := 1) (jd k_Mod_open 107 rfl) (by decide) ?_
              refine j_isub (pc := 198) (jd k_Mod_open 108 rfl) ?_
              refine j_ishl (pc := 199) (jd k_Mod_open 109 rfl) ?_
              refine j_ior (pc := 200) (jd k_Mod_open 110 rfl) ?_
              obtain ⟨x43, e47, H⟩ := olet H
              refine j_topi e47 ?_
              refine j_istore_n (pc := 201) (lv' := [(0, .ref (ad 0)), (1, .int x1), (2, .int x2), (3, .int x43), (4, .int x12), (5, .int x28)]) (jd k_Mod_open 111 rfl) rfl (Nat.le_of_ble_eq_true rfl) rfl ?_
              refine j_aload_n (pc := 202) 0 (jd k_Mod_open 112 rfl) rfl ?_
              refine j_get (pc := 203) (fs := flR ad s32) (v := .ref (ad 21)) fl_Mod_70_10 0 (jd k_Mod_open 113 rfl) rfl rfl ?_
              refine j_iload (pc := 206) 4 (jd k_Mod_open 114 rfl) rfl ?_
              refine j_iconst (pc := 208) (v := 1) (jd k_Mod_open 115 rfl) (by decide) ?_
              refine j_isub (pc := 209) (jd k_Mod_open 116 rfl) ?_
              refine j_iload (pc := 210) 5 (jd k_Mod_open 117 rfl) rfl ?_
              obtain ⟨h46, H⟩ := ochk H
              obtain ⟨s44, e45, H⟩ := olet H
              refine j_iast (pc := 212) (f := s32 38) 21 (jd k_Mod_open 118 rfl) rfl (jin.vp h46) ((waR_38 ad G s32 _).trans (congrArg (mkR ad G) e45)) ?_
              cases H
              exact j_pick [0, 1, 2, 3, 4] rfl K52
        have H := h25
        refine j_if_eq (pc := 119) (tgt := 126) (jd k_Mod_open 64 rfl) rfl (fun h23 => ?_) (fun h23 => ?_)
        · rw [if_pos h23] at H
          refine j_iconst (pc := 126) (v := 0) (jd k_Mod_open 67 rfl) (by decide) ?_
          cases H
          exact K26
        · rw [if_neg h23] at H
          refine j_iconst (pc := 122) (v := 1) (jd k_Mod_open 65 rfl) (by decide) ?_
          refine j_goto (pc := 123) (tgt := 127) (jd k_Mod_open 66 rfl) rfl ?_
          cases H
          exact K26
      · rw [if_neg (not_not_intro h17)] at H
        refine j_goto (pc := 96) (tgt := 213) (jd k_Mod_open 52 rfl) rfl ?_
        cases H
        exact K52

set_option maxRecDepth 20000 in
theorem lp_Mod_open_4 {ad : Nat → Nat} {G : jG} {P : jR → va_W → Prop} : ∀ (n : Nat) (x1 : Int32) (x2 : Int32) (s3 : jS) (r : Int32 × Int32 × jS), L_Mod_open_4 n x1 x2 s3 = some r → J G m_Mod_open 3 0 0 P 294 [(0, .ref (ad 0)), (1, .int r.1), (2, .int r.2.1)] [] (mkR ad G r.2.2) 0 0 → J G m_Mod_open 3 0 0 P 4 [(0, .ref (ad 0)), (1, .int x1), (2, .int x2)] [] (mkR ad G s3) 0 0 := by
  intro n
  induction n with
  | zero =>
    intro x1 x2 s3 r H
    cases (show none = some r from H)
  | succ n ih =>
    intro x1 x2 s3 r H kx
    have H : (
    if (s3 11 0) < x2 then
      some (x1, x2, s3)
    else
      Option.bind (f_Mod_in (s3 25 0) x2) fun x5 =>
      Option.bind (α := Int32 × jS) (
        if ¬ x5 = 0 then
          Option.bind (f_Mod_in (s3 26 0) x2) fun x8 =>
          if ¬ x8 = 0 then
            Option.bind (L_Mod_open_76 x2 jF 0 1 s3) fun (x55, x56, s57) =>
            Option.bind (α := Int32) (
              if ¬ (s57 17 0) = 0 then
                some 1
              else
                Option.bind (f_Mod_bits x55) fun x60 =>
                if (s57 12 0) ≤ x60 then
                  some 0
                else
                  some 1) fun x63 =>
            if jbo x63 then
            jlet (va_up s57 17 (fun _ => x63)) fun s66 =>
            Option.bind (f_Mod_bits x55) fun x69 =>
            Option.bind (α := Int32) (
              if (s66 12 0) ≤ x69 then
                some (1 <<< ((x2 - 1) &&& 31))
              else
                some 0) fun x72 =>
            jlet (va_up s66 27 (fun _ => (s66 27 0) ||| x72)) fun s75 =>
            Option.bind (f_Mod_atZero x55 s75) fun x77 =>
            if ¬ (s75 10 0) = 0 then
            jlet (jrem (x1 + x77) (s75 10 0)) fun x80 =>
            some (x80, s75)
            else none
            else none
          else
            Option.bind (f_Mod_in (s3 24 0) x2) fun x82 =>
            if x82 = 0 then
              Option.bind (L_Mod_open_76_2 x2 jF 0 1 s3) fun (x129, x130, s131) =>
              Option.bind (α := Int32) (
                if ¬ (s131 17 0) = 0 then
                  some 1
                else
                  Option.bind (f_Mod_bits x129) fun x134 =>
                  if (s131 12 0) ≤ x134 then
                    some 0
                  else
                    some 1) fun x137 =>
              if jbo x137 then
              jlet (va_up s131 17 (fun _ => x137)) fun s140 =>
              Option.bind (f_Mod_bits x129) fun x143 =>
              Option.bind (α := Int32) (
                if (s140 12 0) ≤ x143 then
                  some (1 <<< ((x2 - 1) &&& 31))
                else
                  some 0) fun x146 =>
              jlet (va_up s140 27 (fun _ => (s140 27 0) ||| x146)) fun s149 =>
              Option.bind (f_Mod_atZero x129 s149) fun x151 =>
              if ¬ (s149 10 0) = 0 then
              jlet (jrem (x1 + x151) (s149 10 0)) fun x154 =>
              some (x154, s149)
              else none
              else none
            else
              if jin ((7 * x2) - 7) 49 then
              if ¬ (s3 10 0) = 0 then
              jlet (jrem (x1 + (s3 35 ((7 * x2) - 7).toNatClampNeg)) (s3 10 0)) fun x158 =>
              some (x158, s3)
              else none
              else none
        else
          some (x1, s3)) fun (x160, s161) =>
      jlet (x2 + 1) fun x164 =>
      L_Mod_open_4 n x160 x164 s161) = some r := H
    refine j_iload_n (pc := 4) 2 (jd k_Mod_open 4 rfl) rfl ?_
    refine j_aload_n (pc := 5) 0 (jd k_Mod_open 5 rfl) rfl ?_
    refine j_get (pc := 6) (fs := flR ad s3) (v := .int (s3 11 0)) fl_Mod_207_10 0 (jd k_Mod_open 6 rfl) rfl rfl ?_
    refine j_icmp_gt (pc := 9) (tgt := 294) (jd k_Mod_open 7 rfl) rfl (fun h4 => ?_) (fun h4 => ?_)
    · rw [if_pos h4] at H
      cases H
      exact kx
    · rw [if_neg h4] at H
      refine j_aload_n (pc := 12) 0 (jd k_Mod_open 8 rfl) rfl ?_
      refine j_get (pc := 13) (fs := flR ad s3) (v := .int (s3 25 0)) fl_Mod_243_10 0 (jd k_Mod_open 9 rfl) rfl rfl ?_
      refine j_iload_n (pc := 16) 2 (jd k_Mod_open 10 rfl) rfl ?_
      obtain ⟨x5, h6, H⟩ := obnd H
      refine jc_S (pc := 17) (st := []) (c_Mod_in G _ (s3 25 0) x2 _ h6) L0_Mod_in w1384 w1385 (jd k_Mod_open 11 rfl) rfl (Nat.le_of_ble_eq_true rfl) (by decide) (Nat.le_refl _) (Nat.le_refl _) rfl rfl ?_
      obtain ⟨⟨x160, s161⟩, h162, H⟩ := obnd H
      try dsimp only at H
      have K163 : J G m_Mod_open 3 0 0 P 288 [(0, .ref (ad 0)), (1, .int x160), (2, .int x2)] [] (mkR ad G s161) 0 0 := by
        obtain ⟨x164, e165, H⟩ := olet H
        refine j_iinc (pc := 288) (lv' := [(0, .ref (ad 0)), (1, .int x160), (2, .int x164)]) 2 (jd k_Mod_open 160 rfl) rfl e165 rfl (Nat.le_of_ble_eq_true rfl) rfl ?_
        refine j_goto (pc := 291) (tgt := 4) (jd k_Mod_open 161 rfl) rfl ?_
        exact ih x160 x164 s161 _ H kx
      have H := h162
      refine j_if_ne (pc := 20) (tgt := 26) (jd k_Mod_open 12 rfl) rfl (fun h7 => ?_) (fun h7 => ?_)
      · rw [if_pos h7] at H
        refine j_aload_n (pc := 26) 0 (jd k_Mod_open 14 rfl) rfl ?_
        refine j_get (pc := 27) (fs := flR ad s3) (v := .int (s3 26 0)) fl_Mod_246_10 0 (jd k_Mod_open 15 rfl) rfl rfl ?_
        refine j_iload_n (pc := 30) 2 (jd k_Mod_open 16 rfl) rfl ?_
        obtain ⟨x8, h9, H⟩ := obnd H
        refine jc_S (pc := 31) (st := []) (c_Mod_in G _ (s3 26 0) x2 _ h9) L0_Mod_in w1384 w1385 (jd k_Mod_open 17 rfl) rfl (Nat.le_of_ble_eq_true rfl) (by decide) (Nat.le_refl _) (Nat.le_refl _) rfl rfl ?_
        refine j_if_ne (pc := 34) (tgt := 71) (jd k_Mod_open 18 rfl) rfl (fun h10 => ?_) (fun h10 => ?_)
        · rw [if_pos h10] at H
          refine j_iconst (pc := 71) (v := 0) (jd k_Mod_open 39 rfl) (by decide) ?_
          refine j_istore_n (pc := 72) (lv' := [(0, .ref (ad 0)), (1, .int x1), (2, .int x2), (3, .int 0)]) (jd k_Mod_open 40 rfl) rfl (Nat.le_of_ble_eq_true rfl) rfl ?_
          refine j_iconst (pc := 73) (v := 1) (jd k_Mod_open 41 rfl) (by decide) ?_
          refine j_istore (pc := 74) (lv' := [(0, .ref (ad 0)), (1, .int x1), (2, .int x2), (3, .int 0), (4, .int 1)]) (jd k_Mod_open 42 rfl) rfl (Nat.le_of_ble_eq_true rfl) rfl ?_
          obtain ⟨⟨x55, x56, s57⟩, h58, H⟩ := obnd H
          try dsimp only at H
          refine lp_Mod_open_76 x1 x2 jF 0 1 s3 _ h58 ?_
          refine j_pick (lv' := [(0, .ref (ad 0)), (1, .int x1), (2, .int x2), (3, .int x55)]) [0, 1, 2, 3] rfl ?_
          refine j_aload_n (pc := 219) 0 (jd k_Mod_open 121 rfl) rfl ?_
          refine j_aload_n (pc := 220) 0 (jd k_Mod_open 122 rfl) rfl ?_
          refine j_get (pc := 221) (fs := flR ad s57) (v := .int (s57 17 0)) fl_Mod_228_10 0 (jd k_Mod_open 123 rfl) rfl rfl ?_
          obtain ⟨x63, h64, H⟩ := obnd H
          have K65 : J G m_Mod_open 3 0 0 P 243 [(0, .ref (ad 0)), (1, .int x1), (2, .int x2), (3, .int x55)] [.int x63, .ref (ad 0)] (mkR ad G s57) 0 0 := by
            obtain ⟨h68, H⟩ := ochk H
            obtain ⟨s66, e67, H⟩ := olet H
            refine j_put (pc := 243) (fs := flR ad s57) (fp_Mod_228_10 _) 0 (jd k_Mod_open 133 rfl) rfl (jbo.nar h68) (jbo.fit h68) (Nat.le_of_ble_eq_true rfl) ((wpR_17 ad G s57 _).trans (congrArg (mkR ad G) e67)) ?_
            refine j_aload_n (pc := 246) 0 (jd k_Mod_open 134 rfl) rfl ?_
            refine j_dup (pc := 247) (jd k_Mod_open 135 rfl) rfl ?_
            refine j_get (pc := 248) (fs := flR ad s66) (v := .int (s66 27 0)) fl_Mod_249_10 0 (jd k_Mod_open 136 rfl) rfl rfl ?_
            refine j_iload_n (pc := 251) 3 (jd k_Mod_open 137 rfl) rfl ?_
            obtain ⟨x69, h70, H⟩ := obnd H
            refine jc_S (pc := 252) (st := [.int (s66 27 0), .ref (ad 0)]) (c_Mod_bits G _ x55 _ h70) L0_Mod_bits w1403 w1404 (jd k_Mod_open 138 rfl) rfl (Nat.le_of_ble_eq_true rfl) (by decide) (Nat.le_refl _) (Nat.le_refl _) rfl rfl ?_
            refine j_aload_n (pc := 255) 0 (jd k_Mod_open 139 rfl) rfl ?_
            refine j_get (pc := 256) (fs := flR ad s66) (v := .int (s66 12 0)) fl_Mod_216_10 0 (jd k_Mod_open 140 rfl) rfl rfl ?_
            obtain ⟨x72, h73, H⟩ := obnd H
            have K74 : J G m_Mod_open 3 0 0 P 271 [(0, .ref (ad 0)), (1, .int x1), (2, .int x2), (3, .int x55)] [.int x72, .int (s66 27 0), .ref (ad 0)] (mkR ad G s66) 0 0 := by
              refine j_ior (pc := 271) (jd k_Mod_open 149 rfl) ?_
              obtain ⟨s75, e76, H⟩ := olet H
              refine j_put (pc := 272) (fs := flR ad s66) (fp_Mod_249_10 _) 0 (jd k_Mod_open 150 rfl) rfl rfl rfl (Nat.le_of_ble_eq_true rfl) ((wpR_27 ad G s66 _).trans (congrArg (mkR ad G) e76)) ?_
              refine j_iload_n (pc := 275) 1 (jd k_Mod_open 151 rfl) rfl ?_
              refine j_aload_n (pc := 276) 0 (jd k_Mod_open 152 rfl) rfl ?_
              refine j_iload_n (pc := 277) 3 (jd k_Mod_open 153 rfl) rfl ?_
              obtain ⟨x77, h78, H⟩ := obnd H
              refine jc_V (pc := 278) (st := [.int x1]) (c_Mod_atZero ad G x55 s75 _ h78) L0_Mod_atZero w1418 w1420 w55 0 rfl rfl (jd k_Mod_open 154 rfl) rfl (Nat.le_of_ble_eq_true rfl) (by decide) (Nat.le_refl _) (Nat.le_refl _) rfl rfl ?_
              refine j_iadd (pc := 281) (jd k_Mod_open 155 rfl) ?_
              refine j_aload_n (pc := 282) 0 (jd k_Mod_open 156 rfl) rfl ?_
              refine j_get (pc := 283) (fs := flR ad s75) (v := .int (s75 10 0)) fl_Mod_213_10 0 (jd k_Mod_open 157 rfl) rfl rfl ?_
              obtain ⟨h79, H⟩ := ochk H
              refine j_irem (pc := 286) (jd k_Mod_open 158 rfl) h79 ?_
              obtain ⟨x80, e81, H⟩ := olet H
              refine j_topi e81 ?_
              refine j_istore_n (pc := 287) (lv' := [(0, .ref (ad 0)), (1, .int x80), (2, .int x2), (3, .int x55)]) (jd k_Mod_open 159 rfl) rfl (Nat.le_of_ble_eq_true rfl) rfl ?_
              cases H
              exact j_pick [0, 1, 2] rfl K163
            have H := h73
            refine j_icmp_ge (pc := 259) (tgt := 266) (jd k_Mod_open 141 rfl) rfl (fun h71 => ?_) (fun h71 => ?_)
            · rw [if_pos h71] at H
              refine j_iconst (pc := 266) (v := 1) (jd k_Mod_open 144 rfl) (by decide) ?_
              refine j_iload_n (pc := 267) 2 (jd k_Mod_open 145 rfl) rfl ?_
              refine j_iconst (pc := 268) (v := 1) (jd k_Mod_open 146 rfl) (by decide) ?_
              refine j_isub (pc := 269) (jd k_Mod_open 147 rfl) ?_
              refine j_ishl (pc := 270) (jd k_Mod_open 148 rfl) ?_
              cases H
              exact K74
            · rw [if_neg h71] at H
              refine j_iconst (pc := 262) (v := 0) (jd k_Mod_open 142 rfl) (by decide) ?_
              refine j_goto (pc := 263) (tgt := 271) (jd k_Mod_open 143 rfl) rfl ?_
              cases H
              exact K74
          have H := h64
          refine j_if_ne (pc := 224) (tgt := 238) (jd k_Mod_open 124 rfl) rfl (fun h59 => ?_) (fun h59 => ?_)
          · rw [if_pos h59] at H
            refine j_iconst (pc := 238) (v := 1) (jd k_Mod_open 130 rfl) (by decide) ?_
            refine j_goto (pc := 239) (tgt := 243) (jd k_Mod_open 131 rfl) rfl ?_
            cases H
            exact K65
          · rw [if_neg (not_not_intro h59)] at H
            refine j_iload_n (pc := 227) 3 (jd k_Mod_open 125 rfl) rfl ?_
            obtain ⟨x60, h61, H⟩ := obnd H
            refine jc_S (pc := 228) (st := [.ref (ad 0)]) (c_Mod_bits G _ x55 _ h61) L0_Mod_bits w1403 w1404 (jd k_Mod_open 126 rfl) rfl (Nat.le_of_ble_eq_true rfl) (by decide) (Nat.le_refl _) (Nat.le_refl _) rfl rfl ?_
            refine j_aload_n (pc := 231) 0 (jd k_Mod_open 127 rfl) rfl ?_
            refine j_get (pc := 232) (fs := flR ad s57) (v := .int (s57 12 0)) fl_Mod_216_10 0 (jd k_Mod_open 128 rfl) rfl rfl ?_
            refine j_icmp_ge (pc := 235) (tgt := 242) (jd k_Mod_open 129 rfl) rfl (fun h62 => ?_) (fun h62 => ?_)
            · rw [if_pos h62] at H
              refine j_iconst (pc := 242) (v := 0) (jd k_Mod_open 132 rfl) (by decide) ?_
              cases H
              exact K65
            · rw [if_neg h62] at H
              refine j_iconst (pc := 238) (v := 1) (jd k_Mod_open 130 rfl) (by decide) ?_
              refine j_goto (pc := 239) (tgt := 243) (jd k_Mod_open 131 rfl) rfl ?_
              cases H
              exact K65
        · rw [if_neg (not_not_intro h10)] at H
          refine j_aload_n (pc := 37) 0 (jd k_Mod_open 19 rfl) rfl ?_
          refine j_get (pc := 38) (fs := flR ad s3) (v := .int (s3 24 0)) fl_Mod_240_10 0 (jd k_Mod_open 20 rfl) rfl rfl ?_
          refine j_iload_n (pc := 41) 2 (jd k_Mod_open 21 rfl) rfl ?_
          obtain ⟨x82, h83, H⟩ := obnd H
          refine jc_S (pc := 42) (st := []) (c_Mod_in G _ (s3 24 0) x2 _ h83) L0_Mod_in w1384 w1385 (jd k_Mod_open 22 rfl) rfl (Nat.le_of_ble_eq_true rfl) (by decide) (Nat.le_refl _) (Nat.le_refl _) rfl rfl ?_
          refine j_if_eq (pc := 45) (tgt := 71) (jd k_Mod_open 23 rfl) rfl (fun h84 => ?_) (fun h84 => ?_)
          · rw [if_pos h84] at H
            refine j_iconst (pc := 71) (v := 0) (jd k_Mod_open 39 rfl) (by decide) ?_
            refine j_istore_n (pc := 72) (lv' := [(0, .ref (ad 0)), (1, .int x1), (2, .int x2), (3, .int 0)]) (jd k_Mod_open 40 rfl) rfl (Nat.le_of_ble_eq_true rfl) rfl ?_
            refine j_iconst (pc := 73) (v := 1) (jd k_Mod_open 41 rfl) (by decide) ?_
            refine j_istore (pc := 74) (lv' := [(0, .ref (ad 0)), (1, .int x1), (2, .int x2), (3, .int 0), (4, .int 1)]) (jd k_Mod_open 42 rfl) rfl (Nat.le_of_ble_eq_true rfl) rfl ?_
            obtain ⟨⟨x129, x130, s131⟩, h132, H⟩ := obnd H
            try dsimp only at H
            refine lp_Mod_open_76_2 x1 x2 jF 0 1 s3 _ h132 ?_
            refine j_pick (lv' := [(0, .ref (ad 0)), (1, .int x1), (2, .int x2), (3, .int x129)]) [0, 1, 2, 3] rfl ?_
            refine j_aload_n (pc := 219) 0 (jd k_Mod_open 121 rfl) rfl ?_
            refine j_aload_n (pc := 220) 0 (jd k_Mod_open 122 rfl) rfl ?_
            refine j_get (pc := 221) (fs := flR ad s131) (v := .int (s131 17 0)) fl_Mod_228_10 0 (jd k_Mod_open 123 rfl) rfl rfl ?_
            obtain ⟨x137, h138, H⟩ := obnd H
            have K139 : J G m_Mod_open 3 0 0 P 243 [(0, .ref (ad 0)), (1, .int x1), (2, .int x2), (3, .int x129)] [.int x137, .ref (ad 0)] (mkR ad G s131) 0 0 := by
              obtain ⟨h142, H⟩ := ochk H
              obtain ⟨s140, e141, H⟩ := olet H
              refine j_put (pc := 243) (fs := flR ad s131) (fp_Mod_228_10 _) 0 (jd k_Mod_open 133 rfl) rfl (jbo.nar h142) (jbo.fit h142) (Nat.le_of_ble_eq_true rfl) ((wpR_17 ad G s131 _).trans (congrArg (mkR ad G) e141)) ?_
              refine j_aload_n (pc := 246) 0 (jd k_Mod_open 134 rfl) rfl ?_
              refine j_dup (pc := 247) (jd k_Mod_open 135 rfl) rfl ?_
              refine j_get (pc := 248) (fs := flR ad s140) (v := .int (s140 27 0)) fl_Mod_249_10 0 (jd k_Mod_open 136 rfl) rfl rfl ?_
              refine j_iload_n (pc := 251) 3 (jd k_Mod_open 137 rfl) rfl ?_
              obtain ⟨x143, h144, H⟩ := obnd H
              refine jc_S (pc := 252) (st := [.int (s140 27 0), .ref (ad 0)]) (c_Mod_bits G _ x129 _ h144) L0_Mod_bits w1403 w1404 (jd k_Mod_open 138 rfl) rfl (Nat.le_of_ble_eq_true rfl) (by decide) (Nat.le_refl _) (Nat.le_refl _) rfl rfl ?_
              refine j_aload_n (pc := 255) 0 (jd k_Mod_open 139 rfl) rfl ?_
              refine j_get (pc := 256) (fs := flR ad s140) (v := .int (s140 12 0)) fl_Mod_216_10 0 (jd k_Mod_open 140 rfl) rfl rfl ?_
              obtain ⟨x146, h147, H⟩ := obnd H
              have K148 : J G m_Mod_open 3 0 0 P 271 [(0, .ref (ad 0)), (1, .int x1), (2, .int x2), (3, .int x129)] [.int x146, .int (s140 27 0), .ref (ad 0)] (mkR ad G s140) 0 0 := by
                refine j_ior (pc := 271) (jd k_Mod_open 149 rfl) ?_
                obtain ⟨s149, e150, H⟩ := olet H
                refine j_put (pc := 272) (fs := flR ad s140) (fp_Mod_249_10 _) 0 (jd k_Mod_open 150 rfl) rfl rfl rfl (Nat.le_of_ble_eq_true rfl) ((wpR_27 ad G s140 _).trans (congrArg (mkR ad G) e150)) ?_
                refine j_iload_n (pc := 275) 1 (jd k_Mod_open 151 rfl) rfl ?_
                refine j_aload_n (pc := 276) 0 (jd k_Mod_open 152 rfl) rfl ?_
                refine j_iload_n (pc := 277) 3 (jd k_Mod_open 153 rfl) rfl ?_
                obtain ⟨x151, h152, H⟩ := obnd H
                refine jc_V (pc := 278) (st := [.int x1]) (c_Mod_atZero ad G x129 s149 _ h152) L0_Mod_atZero w1418 w1420 w55 0 rfl rfl (jd k_Mod_open 154 rfl) rfl (Nat.le_of_ble_eq_true rfl) (by decide) (Nat.le_refl _) (Nat.le_refl _) rfl rfl ?_
                refine j_iadd (pc := 281) (jd k_Mod_open 155 rfl) ?_
                refine j_aload_n (pc := 282) 0 (jd k_Mod_open 156 rfl) rfl ?_
                refine j_get (pc := 283) (fs := flR ad s149) (v := .int (s149 10 0)) fl_Mod_213_10 0 (jd k_Mod_open 157 rfl) rfl rfl ?_
                obtain ⟨h153, H⟩ := ochk H
                refine j_irem (pc := 286) (jd k_Mod_open 158 rfl) h153 ?_
                obtain ⟨x154, e155, H⟩ := olet H
                refine j_topi e155 ?_
                refine j_istore_n (pc := 287) (lv' := [(0, .ref (ad 0)), (1, .int x154), (2, .int x2), (3, .int x129)]) (jd k_Mod_open 159 rfl) rfl (Nat.le_of_ble_eq_true rfl) rfl ?_
                cases H
                exact j_pick [0, 1, 2] rfl K163
              have H := h147
              refine j_icmp_ge (pc := 259) (tgt := 266) (jd k_Mod_open 141 rfl) rfl (fun h145 => ?_) (fun h145 => ?_)
              · rw [if_pos h145] at H
                refine j_iconst (pc := 266) (v := 1) (jd k_Mod_open 144 rfl) (by decide) ?_
                refine j_iload_n (pc := 267) 2 (jd k_Mod_open 145 rfl) rfl ?_
                refine j_iconst (pc := 268) (v := 1) (jd k_Mod_open 146 rfl) (by decide) ?_
                refine j_isub (pc := 269) (jd k_Mod_open 147 rfl) ?_
                refine j_ishl (pc := 270) (jd k_Mod_open 148 rfl) ?_
                cases H
                exact K148
              · rw [if_neg h145] at H
                refine j_iconst (pc := 262) (v := 0) (jd k_Mod_open 142 rfl) (by decide) ?_
                refine j_goto (pc := 263) (tgt := 271) (jd k_Mod_open 143 rfl) rfl ?_
                cases H
                exact K148
            have H := h138
            refine j_if_ne (pc := 224) (tgt := 238) (jd k_Mod_open 124 rfl) rfl (fun h133 => ?_) (fun h133 => ?_)
            · rw [if_pos h133] at H
              refine j_iconst (pc := 238) (v := 1) (jd k_Mod_open 130 rfl) (by decide) ?_
              refine j_goto (pc := 239) (tgt := 243) (jd k_Mod_open 131 rfl) rfl ?_
              cases H
              exact K139
            · rw [if_neg (not_not_intro h133)] at H
              refine j_iload_n (pc := 227) 3 (jd k_Mod_open 125 rfl) rfl ?_
              obtain ⟨x134, h135, H⟩ := obnd H
              refine jc_S (pc := 228) (st := [.ref (ad 0)]) (c_Mod_bits G _ x129 _ h135) L0_Mod_bits w1403 w1404 (jd k_Mod_open 126 rfl) rfl (Nat.le_of_ble_eq_true rfl) (by decide) (Nat.le_refl _) (Nat.le_refl _) rfl rfl ?_
              refine j_aload_n (pc := 231) 0 (jd k_Mod_open 127 rfl) rfl ?_
              refine j_get (pc := 232) (fs := flR ad s131) (v := .int (s131 12 0)) fl_Mod_216_10 0 (jd k_Mod_open 128 rfl) rfl rfl ?_
              refine j_icmp_ge (pc := 235) (tgt := 242) (jd k_Mod_open 129 rfl) rfl (fun h136 => ?_) (fun h136 => ?_)
              · rw [if_pos h136] at H
                refine j_iconst (pc := 242) (v := 0) (jd k_Mod_open 132 rfl) (by decide) ?_
                cases H
                exact K139
              · rw [if_neg h136] at H
                refine j_iconst (pc := 238) (v := 1) (jd k_Mod_open 130 rfl) (by decide) ?_
                refine j_goto (pc := 239) (tgt := 243) (jd k_Mod_open 131 rfl) rfl ?_
                cases H
                exact K139
          · rw [if_neg h84] at H
            refine j_iload_n (pc := 48) 1 (jd k_Mod_open 24 rfl) rfl ?_
            refine j_aload_n (pc := 49) 0 (jd k_Mod_open 25 rfl) rfl ?_
            refine j_get (pc := 50) (fs := flR ad s3) (v := .ref (ad 18)) fl_Mod_61_10 0 (jd k_Mod_open 26 rfl) rfl rfl ?_
            refine j_bipush (pc := 53) (v := 7) (jd k_Mod_open 27 rfl) (by decide) ?_
            refine j_iload_n (pc := 55) 2 (jd k_Mod_open 28 rfl) rfl ?_
            refine j_imul (pc := 56) (jd k_Mod_open 29 rfl) ?_
            refine j_bipush (pc := 57) (v := 7) (jd k_Mod_open 30 rfl) (by decide) ?_
            refine j_isub (pc := 59) (jd k_Mod_open 31 rfl) ?_
            obtain ⟨h156, H⟩ := ochk H
            refine j_iald (pc := 60) (f := s3 35) 18 (jd k_Mod_open 32 rfl) rfl (jin.vp h156) ?_
            refine j_iadd (pc := 61) (jd k_Mod_open 33 rfl) ?_
            refine j_aload_n (pc := 62) 0 (jd k_Mod_open 34 rfl) rfl ?_
            refine j_get (pc := 63) (fs := flR ad s3) (v := .int (s3 10 0)) fl_Mod_213_10 0 (jd k_Mod_open 35 rfl) rfl rfl ?_
            obtain ⟨h157, H⟩ := ochk H
            refine j_irem (pc := 66) (jd k_Mod_open 36 rfl) h157 ?_
            obtain ⟨x158, e159, H⟩ := olet H
            refine j_topi e159 ?_
            refine j_istore_n (pc := 67) (lv' := [(0, .ref (ad 0)), (1, .int x158), (2, .int x2)]) (jd k_Mod_open 37 rfl) rfl (Nat.le_of_ble_eq_true rfl) rfl ?_
            refine j_goto (pc := 68) (tgt := 288) (jd k_Mod_open 38 rfl) rfl ?_
            cases H
            exact K163
      · rw [if_neg (not_not_intro h7)] at H
        refine j_goto (pc := 23) (tgt := 288) (jd k_Mod_open 13 rfl) rfl ?_
        cases H
        exact K163

set_option maxRecDepth 20000 in
theorem c_Mod_open (ad : Nat → Nat) (G : jG) (s : jS) (r : jS) (H : f_Mod_open s = some r) : jCon G m_Mod_open y_Mod_open 3 0 0 [.ref (ad 0)] (mkR ad G s) (jEq none (mkR ad G r)) := by
  refine jCon.of (by decide +kernel) rfl rfl rfl (Nat.le_of_ble_eq_true rfl) rfl ?_
  have H : (
  Option.bind (L_Mod_open_4 jF 0 1 s) fun (x166, x167, s168) =>
  jlet (va_up s168 39 (fun _ => x166)) fun s170 =>
  Option.bind (α := Int32) (
    if ¬ (s170 17 0) = 0 then
      some 0
    else
      some 1) fun x173 =>
  if jbo x173 then
  jlet (va_up s170 16 (fun _ => x173)) fun s176 =>
  some s176
  else none) = some r := H
  generalize hP9 : jEq none (mkR ad G r) = P
  refine j_iconst (pc := 0) (v := 0) (jd k_Mod_open 0 rfl) (by decide) ?_
  refine j_istore_n (pc := 1) (lv' := [(0, .ref (ad 0)), (1, .int 0)]) (jd k_Mod_open 1 rfl) rfl (Nat.le_of_ble_eq_true rfl) rfl ?_
  refine j_iconst (pc := 2) (v := 1) (jd k_Mod_open 2 rfl) (by decide) ?_
  refine j_istore_n (pc := 3) (lv' := [(0, .ref (ad 0)), (1, .int 0), (2, .int 1)]) (jd k_Mod_open 3 rfl) rfl (Nat.le_of_ble_eq_true rfl) rfl ?_
  obtain ⟨⟨x166, x167, s168⟩, h169, H⟩ := obnd H
  try dsimp only at H
  refine lp_Mod_open_4  jF 0 1 s _ h169 ?_
  refine j_pick (lv' := [(0, .ref (ad 0)), (1, .int x166)]) [0, 1] rfl ?_
  refine j_aload_n (pc := 294) 0 (jd k_Mod_open 162 rfl) rfl ?_
  refine j_iload_n (pc := 295) 1 (jd k_Mod_open 163 rfl) rfl ?_
  obtain ⟨s170, e171, H⟩ := olet H
  refine j_put (pc := 296) (fs := flR ad s168) (fp_Mod_326_10 _) 0 (jd k_Mod_open 164 rfl) rfl rfl rfl (Nat.le_of_ble_eq_true rfl) ((wpR_39 ad G s168 _).trans (congrArg (mkR ad G) e171)) ?_
  refine j_aload_n (pc := 299) 0 (jd k_Mod_open 165 rfl) rfl ?_
  refine j_aload_n (pc := 300) 0 (jd k_Mod_open 166 rfl) rfl ?_
  refine j_get (pc := 301) (fs := flR ad s170) (v := .int (s170 17 0)) fl_Mod_228_10 0 (jd k_Mod_open 167 rfl) rfl rfl ?_
  obtain ⟨x173, h174, H⟩ := obnd H
  have K175 : J G m_Mod_open 3 0 0 P 312 [] [.int x173, .ref (ad 0)] (mkR ad G s170) 0 0 := by
    obtain ⟨h178, H⟩ := ochk H
    obtain ⟨s176, e177, H⟩ := olet H
    refine j_put (pc := 312) (fs := flR ad s170) (fp_Mod_225_10 _) 0 (jd k_Mod_open 172 rfl) rfl (jbo.nar h178) (jbo.fit h178) (Nat.le_of_ble_eq_true rfl) ((wpR_16 ad G s170 _).trans (congrArg (mkR ad G) e177)) ?_
    cases H
    subst hP9
    exact j_vret (pc := 315) (jd k_Mod_open 173 rfl) rfl ⟨rfl, rfl⟩
  have H := h174
  refine j_if_ne (pc := 304) (tgt := 311) (jd k_Mod_open 168 rfl) rfl (fun h172 => ?_) (fun h172 => ?_)
  · rw [if_pos h172] at H
    refine j_iconst (pc := 311) (v := 0) (jd k_Mod_open 171 rfl) (by decide) ?_
    cases H
    exact j_pick [] rfl K175
  · rw [if_neg (not_not_intro h172)] at H
    refine j_iconst (pc := 307) (v := 1) (jd k_Mod_open 169 rfl) (by decide) ?_
    refine j_goto (pc := 308) (tgt := 312) (jd k_Mod_open 170 rfl) rfl ?_
    cases H
    exact j_pick [] rfl K175

set_option maxRecDepth 20000 in
theorem c_Mod_next (ad : Nat → Nat) (G : jG) (s : jS) (r : Int32 × jS) (H : f_Mod_next s = some r) : jCon G m_Mod_next y_Mod_next 4 0 0 [.ref (ad 0)] (mkR ad G s) (jEq (some (.int r.1)) (mkR ad G r.2)) := by
  refine jCon.of (by decide +kernel) rfl rfl rfl (Nat.le_of_ble_eq_true rfl) rfl ?_
  have H : (
  Option.bind (α := Int32) (
    if (s 15 0) = 0 then
      some 1
    else
      if ¬ (s 16 0) = 0 then
        some 1
      else
        if (s 17 0) = 0 then
          some 0
        else
          some 1) fun x4 =>
  jlet (va_up s 0 (fun _ => x4)) fun s7 =>
  if (s7 0 0) ≤ 0 then
    jlet (va_up s7 18 (fun _ => (s7 18 0) + 1)) fun s10 =>
    Option.bind (α := jS) (
      if ¬ (s10 18 0) = 1 then
        if ¬ (s10 18 0) = 2 then
          if ¬ (s10 18 0) = 3 then
            if ¬ (s10 18 0) = 4 then
              if ¬ (s10 18 0) = 5 then
                if ¬ (s10 18 0) = 6 then
                  Option.bind (f_Mod_open s10) fun s18 =>
                  some s18
                else
                  Option.bind (f_Mod_accuse s10) fun s20 =>
                  some s20
              else
                Option.bind (f_Mod_extract s10) fun s22 =>
                some s22
            else
              Option.bind (f_Mod_judge s10) fun s24 =>
              some s24
          else
            Option.bind (f_Mod_answer s10) fun s26 =>
            some s26
        else
          Option.bind (f_Mod_complain s10) fun s28 =>
          some s28
      else
        Option.bind (f_Mod_deal s10) fun s30 =>
        some s30) fun s32 =>
    some (s32 18 0, s32)
  else
    some (0, s7)) = some r := H
  generalize hP9 : jEq (some (.int r.1)) (mkR ad G r.2) = P
  refine j_aload_n (pc := 0) 0 (jd k_Mod_next 0 rfl) rfl ?_
  refine j_aload_n (pc := 1) 0 (jd k_Mod_next 1 rfl) rfl ?_
  refine j_get (pc := 2) (fs := flR ad s) (v := .int (s 15 0)) fl_Mod_203_10 0 (jd k_Mod_next 2 rfl) rfl rfl ?_
  obtain ⟨x4, h5, H⟩ := obnd H
  have K6 : J G m_Mod_next 4 0 0 P 27 [(0, .ref (ad 0))] [.int x4, .ref (ad 0)] (mkR ad G s) 0 0 := by
    obtain ⟨s7, e8, H⟩ := olet H
    refine j_put (pc := 27) (fs := flR ad s) (fp_Mod_170_10 _) 0 (jd k_Mod_next 13 rfl) rfl rfl rfl (Nat.le_of_ble_eq_true rfl) ((wpR_0 ad G s _).trans (congrArg (mkR ad G) e8)) ?_
    refine j_aload_n (pc := 30) 0 (jd k_Mod_next 14 rfl) rfl ?_
    refine j_get (pc := 31) (fs := flR ad s7) (v := .int (s7 0 0)) fl_Mod_170_10 0 (jd k_Mod_next 15 rfl) rfl rfl ?_
    refine j_if_le (pc := 34) (tgt := 39) (jd k_Mod_next 16 rfl) rfl (fun h9 => ?_) (fun h9 => ?_)
    · rw [if_pos h9] at H
      refine j_aload_n (pc := 39) 0 (jd k_Mod_next 19 rfl) rfl ?_
      refine j_dup (pc := 40) (jd k_Mod_next 20 rfl) rfl ?_
      refine j_get (pc := 41) (fs := flR ad s7) (v := .int (s7 18 0)) fl_Mod_231_10 0 (jd k_Mod_next 21 rfl) rfl rfl ?_
      refine j_iconst (pc := 44) (v := 1) (jd k_Mod_next 22 rfl) (by decide) ?_
      refine j_iadd (pc := 45) (jd k_Mod_next 23 rfl) ?_
      obtain ⟨s10, e11, H⟩ := olet H
      refine j_put (pc := 46) (fs := flR ad s7) (fp_Mod_231_10 _) 0 (jd k_Mod_next 24 rfl) rfl rfl rfl (Nat.le_of_ble_eq_true rfl) ((wpR_18 ad G s7 _).trans (congrArg (mkR ad G) e11)) ?_
      refine j_aload_n (pc := 49) 0 (jd k_Mod_next 25 rfl) rfl ?_
      refine j_get (pc := 50) (fs := flR ad s10) (v := .int (s10 18 0)) fl_Mod_231_10 0 (jd k_Mod_next 26 rfl) rfl rfl ?_
      refine j_iconst (pc := 53) (v := 1) (jd k_Mod_next 27 rfl) (by decide) ?_
      obtain ⟨s32, h33, H⟩ := obnd H
      have K34 : J G m_Mod_next 4 0 0 P 144 [(0, .ref (ad 0))] [] (mkR ad G s32) 0 0 := by
        refine j_aload_n (pc := 144) 0 (jd k_Mod_next 69 rfl) rfl ?_
        refine j_get (pc := 145) (fs := flR ad s32) (v := .int (s32 18 0)) fl_Mod_231_10 0 (jd k_Mod_next 70 rfl) rfl rfl ?_
        cases H
        subst hP9
        exact j_iret (pc := 148) (jd k_Mod_next 71 rfl) rfl rfl ⟨rfl, rfl⟩
      have H := h33
      refine j_icmp_ne (pc := 54) (tgt := 64) (jd k_Mod_next 28 rfl) rfl (fun h12 => ?_) (fun h12 => ?_)
      · rw [if_pos h12] at H
        refine j_aload_n (pc := 64) 0 (jd k_Mod_next 32 rfl) rfl ?_
        refine j_get (pc := 65) (fs := flR ad s10) (v := .int (s10 18 0)) fl_Mod_231_10 0 (jd k_Mod_next 33 rfl) rfl rfl ?_
        refine j_iconst (pc := 68) (v := 2) (jd k_Mod_next 34 rfl) (by decide) ?_
        refine j_icmp_ne (pc := 69) (tgt := 79) (jd k_Mod_next 35 rfl) rfl (fun h13 => ?_) (fun h13 => ?_)
        · rw [if_pos h13] at H
          refine j_aload_n (pc := 79) 0 (jd k_Mod_next 39 rfl) rfl ?_
          refine j_get (pc := 80) (fs := flR ad s10) (v := .int (s10 18 0)) fl_Mod_231_10 0 (jd k_Mod_next 40 rfl) rfl rfl ?_
          refine j_iconst (pc := 83) (v := 3) (jd k_Mod_next 41 rfl) (by decide) ?_
          refine j_icmp_ne (pc := 84) (tgt := 94) (jd k_Mod_next 42 rfl) rfl (fun h14 => ?_) (fun h14 => ?_)
          · rw [if_pos h14] at H
            refine j_aload_n (pc := 94) 0 (jd k_Mod_next 46 rfl) rfl ?_
            refine j_get (pc := 95) (fs := flR ad s10) (v := .int (s10 18 0)) fl_Mod_231_10 0 (jd k_Mod_next 47 rfl) rfl rfl ?_
            refine j_iconst (pc := 98) (v := 4) (jd k_Mod_next 48 rfl) (by decide) ?_
            refine j_icmp_ne (pc := 99) (tgt := 109) (jd k_Mod_next 49 rfl) rfl (fun h15 => ?_) (fun h15 => ?_)
            · rw [if_pos h15] at H
              refine j_aload_n (pc := 109) 0 (jd k_Mod_next 53 rfl) rfl ?_
              refine j_get (pc := 110) (fs := flR ad s10) (v := .int (s10 18 0)) fl_Mod_231_10 0 (jd k_Mod_next 54 rfl) rfl rfl ?_
              refine j_iconst (pc := 113) (v := 5) (jd k_Mod_next 55 rfl) (by decide) ?_
              refine j_icmp_ne (pc := 114) (tgt := 124) (jd k_Mod_next 56 rfl) rfl (fun h16 => ?_) (fun h16 => ?_)
              · rw [if_pos h16] at H
                refine j_aload_n (pc := 124) 0 (jd k_Mod_next 60 rfl) rfl ?_
                refine j_get (pc := 125) (fs := flR ad s10) (v := .int (s10 18 0)) fl_Mod_231_10 0 (jd k_Mod_next 61 rfl) rfl rfl ?_
                refine j_bipush (pc := 128) (v := 6) (jd k_Mod_next 62 rfl) (by decide) ?_
                refine j_icmp_ne (pc := 130) (tgt := 140) (jd k_Mod_next 63 rfl) rfl (fun h17 => ?_) (fun h17 => ?_)
                · rw [if_pos h17] at H
                  refine j_aload_n (pc := 140) 0 (jd k_Mod_next 67 rfl) rfl ?_
                  obtain ⟨s18, h19, H⟩ := obnd H
                  refine jc_V (pc := 141) (st := []) (c_Mod_open ad G s10 _ h19) L0_Mod_open w1414 w1416 w54 0 rfl rfl (jd k_Mod_next 68 rfl) rfl (Nat.le_of_ble_eq_true rfl) (by decide) (Nat.le_refl _) (Nat.le_refl _) rfl rfl ?_
                  cases H
                  exact K34
                · rw [if_neg (not_not_intro h17)] at H
                  refine j_aload_n (pc := 133) 0 (jd k_Mod_next 64 rfl) rfl ?_
                  obtain ⟨s20, h21, H⟩ := obnd H
                  refine jc_V (pc := 134) (st := []) (c_Mod_accuse ad G s10 _ h21) L0_Mod_accuse w1410 w1412 w53 0 rfl rfl (jd k_Mod_next 65 rfl) rfl (Nat.le_of_ble_eq_true rfl) (by decide) (Nat.le_refl _) (Nat.le_refl _) rfl rfl ?_
                  refine j_goto (pc := 137) (tgt := 144) (jd k_Mod_next 66 rfl) rfl ?_
                  cases H
                  exact K34
              · rw [if_neg (not_not_intro h16)] at H
                refine j_aload_n (pc := 117) 0 (jd k_Mod_next 57 rfl) rfl ?_
                obtain ⟨s22, h23, H⟩ := obnd H
                refine jc_V (pc := 118) (st := []) (c_Mod_extract ad G s10 _ h23) L0_Mod_extract w1406 w1408 w52 0 rfl rfl (jd k_Mod_next 58 rfl) rfl (Nat.le_of_ble_eq_true rfl) (by decide) (Nat.le_refl _) (Nat.le_refl _) rfl rfl ?_
                refine j_goto (pc := 121) (tgt := 144) (jd k_Mod_next 59 rfl) rfl ?_
                cases H
                exact K34
            · rw [if_neg (not_not_intro h15)] at H
              refine j_aload_n (pc := 102) 0 (jd k_Mod_next 50 rfl) rfl ?_
              obtain ⟨s24, h25, H⟩ := obnd H
              refine jc_V (pc := 103) (st := []) (c_Mod_judge ad G s10 _ h25) L0_Mod_judge w1399 w1401 w51 0 rfl rfl (jd k_Mod_next 51 rfl) rfl (Nat.le_of_ble_eq_true rfl) (by decide) (Nat.le_refl _) (Nat.le_refl _) rfl rfl ?_
              refine j_goto (pc := 106) (tgt := 144) (jd k_Mod_next 52 rfl) rfl ?_
              cases H
              exact K34
          · rw [if_neg (not_not_intro h14)] at H
            refine j_aload_n (pc := 87) 0 (jd k_Mod_next 43 rfl) rfl ?_
            obtain ⟨s26, h27, H⟩ := obnd H
            refine jc_V (pc := 88) (st := []) (c_Mod_answer ad G s10 _ h27) L0_Mod_answer w1391 w1393 w49 0 rfl rfl (jd k_Mod_next 44 rfl) rfl (Nat.le_of_ble_eq_true rfl) (by decide) (Nat.le_refl _) (Nat.le_refl _) rfl rfl ?_
            refine j_goto (pc := 91) (tgt := 144) (jd k_Mod_next 45 rfl) rfl ?_
            cases H
            exact K34
        · rw [if_neg (not_not_intro h13)] at H
          refine j_aload_n (pc := 72) 0 (jd k_Mod_next 36 rfl) rfl ?_
          obtain ⟨s28, h29, H⟩ := obnd H
          refine jc_V (pc := 73) (st := []) (c_Mod_complain ad G s10 _ h29) L0_Mod_complain w1380 w1382 w47 0 rfl rfl (jd k_Mod_next 37 rfl) rfl (Nat.le_of_ble_eq_true rfl) (by decide) (Nat.le_refl _) (Nat.le_refl _) rfl rfl ?_
          refine j_goto (pc := 76) (tgt := 144) (jd k_Mod_next 38 rfl) rfl ?_
          cases H
          exact K34
      · rw [if_neg (not_not_intro h12)] at H
        refine j_aload_n (pc := 57) 0 (jd k_Mod_next 29 rfl) rfl ?_
        obtain ⟨s30, h31, H⟩ := obnd H
        refine jc_V (pc := 58) (st := []) (c_Mod_deal ad G s10 _ h31) L0_Mod_deal w1340 w1342 w37 0 rfl rfl (jd k_Mod_next 30 rfl) rfl (Nat.le_of_ble_eq_true rfl) (by decide) (Nat.le_refl _) (Nat.le_refl _) rfl rfl ?_
        refine j_goto (pc := 61) (tgt := 144) (jd k_Mod_next 31 rfl) rfl ?_
        cases H
        exact K34
    · rw [if_neg h9] at H
      refine j_iconst (pc := 37) (v := 0) (jd k_Mod_next 17 rfl) (by decide) ?_
      cases H
      subst hP9
      exact j_iret (pc := 38) (jd k_Mod_next 18 rfl) rfl rfl ⟨rfl, rfl⟩
  have H := h5
  refine j_if_eq (pc := 5) (tgt := 22) (jd k_Mod_next 3 rfl) rfl (fun h1 => ?_) (fun h1 => ?_)
  · rw [if_pos h1] at H
    refine j_iconst (pc := 22) (v := 1) (jd k_Mod_next 10 rfl) (by decide) ?_
    refine j_goto (pc := 23) (tgt := 27) (jd k_Mod_next 11 rfl) rfl ?_
    cases H
    exact K6
  · rw [if_neg h1] at H
    refine j_aload_n (pc := 8) 0 (jd k_Mod_next 4 rfl) rfl ?_
    refine j_get (pc := 9) (fs := flR ad s) (v := .int (s 16 0)) fl_Mod_225_10 0 (jd k_Mod_next 5 rfl) rfl rfl ?_
    refine j_if_ne (pc := 12) (tgt := 22) (jd k_Mod_next 6 rfl) rfl (fun h2 => ?_) (fun h2 => ?_)
    · rw [if_pos h2] at H
      refine j_iconst (pc := 22) (v := 1) (jd k_Mod_next 10 rfl) (by decide) ?_
      refine j_goto (pc := 23) (tgt := 27) (jd k_Mod_next 11 rfl) rfl ?_
      cases H
      exact K6
    · rw [if_neg (not_not_intro h2)] at H
      refine j_aload_n (pc := 15) 0 (jd k_Mod_next 7 rfl) rfl ?_
      refine j_get (pc := 16) (fs := flR ad s) (v := .int (s 17 0)) fl_Mod_228_10 0 (jd k_Mod_next 8 rfl) rfl rfl ?_
      refine j_if_eq (pc := 19) (tgt := 26) (jd k_Mod_next 9 rfl) rfl (fun h3 => ?_) (fun h3 => ?_)
      · rw [if_pos h3] at H
        refine j_iconst (pc := 26) (v := 0) (jd k_Mod_next 12 rfl) (by decide) ?_
        cases H
        exact K6
      · rw [if_neg h3] at H
        refine j_iconst (pc := 22) (v := 1) (jd k_Mod_next 10 rfl) (by decide) ?_
        refine j_goto (pc := 23) (tgt := 27) (jd k_Mod_next 11 rfl) rfl ?_
        cases H
        exact K6

set_option maxRecDepth 20000 in
theorem c_Mod_state (ad : Nat → Nat) (G : jG) (s : jS) (r : Int32 × jS) (H : f_Mod_state s = some r) : jCon G m_Mod_state y_Mod_state 0 0 0 [.ref (ad 0)] (mkR ad G s) (jEq (some (.int r.1)) (mkR ad G r.2)) := by
  refine jCon.of (by decide +kernel) rfl rfl rfl (Nat.le_of_ble_eq_true rfl) rfl ?_
  have H : (
  jlet (va_up s 0 (fun _ => 0)) fun s1 =>
  Option.bind (α := Int32) (
    if ¬ (s1 15 0) = 0 then
      if (s1 16 0) = 0 then
        if (s1 17 0) = 0 then
          some 1
        else
          some 3
      else
        some 2
    else
      some 0) fun x6 =>
  some (x6, s1)) = some r := H
  generalize hP9 : jEq (some (.int r.1)) (mkR ad G r.2) = P
  refine j_aload_n (pc := 0) 0 (jd k_Mod_state 0 rfl) rfl ?_
  refine j_iconst (pc := 1) (v := 0) (jd k_Mod_state 1 rfl) (by decide) ?_
  obtain ⟨s1, e2, H⟩ := olet H
  refine j_put (pc := 2) (fs := flR ad s) (fp_Mod_170_10 _) 0 (jd k_Mod_state 2 rfl) rfl rfl rfl (Nat.le_of_ble_eq_true rfl) ((wpR_0 ad G s _).trans (congrArg (mkR ad G) e2)) ?_
  refine j_aload_n (pc := 5) 0 (jd k_Mod_state 3 rfl) rfl ?_
  refine j_get (pc := 6) (fs := flR ad s1) (v := .int (s1 15 0)) fl_Mod_203_10 0 (jd k_Mod_state 4 rfl) rfl rfl ?_
  obtain ⟨x6, h7, H⟩ := obnd H
  have K8 : J G m_Mod_state 0 0 0 P 39 [] [.int x6] (mkR ad G s1) 0 0 := by
    cases H
    subst hP9
    exact j_iret (pc := 39) (jd k_Mod_state 19 rfl) rfl rfl ⟨rfl, rfl⟩
  have H := h7
  refine j_if_ne (pc := 9) (tgt := 16) (jd k_Mod_state 5 rfl) rfl (fun h3 => ?_) (fun h3 => ?_)
  · rw [if_pos h3] at H
    refine j_aload_n (pc := 16) 0 (jd k_Mod_state 8 rfl) rfl ?_
    refine j_get (pc := 17) (fs := flR ad s1) (v := .int (s1 16 0)) fl_Mod_225_10 0 (jd k_Mod_state 9 rfl) rfl rfl ?_
    refine j_if_eq (pc := 20) (tgt := 27) (jd k_Mod_state 10 rfl) rfl (fun h4 => ?_) (fun h4 => ?_)
    · rw [if_pos h4] at H
      refine j_aload_n (pc := 27) 0 (jd k_Mod_state 13 rfl) rfl ?_
      refine j_get (pc := 28) (fs := flR ad s1) (v := .int (s1 17 0)) fl_Mod_228_10 0 (jd k_Mod_state 14 rfl) rfl rfl ?_
      refine j_if_eq (pc := 31) (tgt := 38) (jd k_Mod_state 15 rfl) rfl (fun h5 => ?_) (fun h5 => ?_)
      · rw [if_pos h5] at H
        refine j_iconst (pc := 38) (v := 1) (jd k_Mod_state 18 rfl) (by decide) ?_
        cases H
        exact j_pick [] rfl K8
      · rw [if_neg h5] at H
        refine j_iconst (pc := 34) (v := 3) (jd k_Mod_state 16 rfl) (by decide) ?_
        refine j_goto (pc := 35) (tgt := 39) (jd k_Mod_state 17 rfl) rfl ?_
        cases H
        exact j_pick [] rfl K8
    · rw [if_neg h4] at H
      refine j_iconst (pc := 23) (v := 2) (jd k_Mod_state 11 rfl) (by decide) ?_
      refine j_goto (pc := 24) (tgt := 39) (jd k_Mod_state 12 rfl) rfl ?_
      cases H
      exact j_pick [] rfl K8
  · rw [if_neg (not_not_intro h3)] at H
    refine j_iconst (pc := 12) (v := 0) (jd k_Mod_state 6 rfl) (by decide) ?_
    refine j_goto (pc := 13) (tgt := 39) (jd k_Mod_state 7 rfl) rfl ?_
    cases H
    exact j_pick [] rfl K8

set_option maxRecDepth 20000 in
theorem c_Mod_mask (ad : Nat → Nat) (G : jG) (s : jS) (r : Int32) (H : f_Mod_mask s = some r) : jCon G m_Mod_mask y_Mod_mask 0 0 0 [.ref (ad 0)] (mkR ad G s) (jEq (some (.int r)) (mkR ad G s)) := by
  refine jCon.of (by decide +kernel) rfl rfl rfl (Nat.le_of_ble_eq_true rfl) rfl ?_
  have H : (
  some ((1 <<< ((s 11 0) &&& 31)) - 1)) = some r := H
  generalize hP9 : jEq (some (.int r)) (mkR ad G s) = P
  refine j_iconst (pc := 0) (v := 1) (jd k_Mod_mask 0 rfl) (by decide) ?_
  refine j_aload_n (pc := 1) 0 (jd k_Mod_mask 1 rfl) rfl ?_
  refine j_get (pc := 2) (fs := flR ad s) (v := .int (s 11 0)) fl_Mod_207_10 0 (jd k_Mod_mask 2 rfl) rfl rfl ?_
  refine j_ishl (pc := 5) (jd k_Mod_mask 3 rfl) ?_
  refine j_iconst (pc := 6) (v := 1) (jd k_Mod_mask 4 rfl) (by decide) ?_
  refine j_isub (pc := 7) (jd k_Mod_mask 5 rfl) ?_
  cases H
  subst hP9
  exact j_iret (pc := 8) (jd k_Mod_mask 6 rfl) rfl rfl ⟨rfl, rfl⟩

set_option maxRecDepth 20000 in
theorem lp_Mod_parties_111 {ad : Nat → Nat} {G : jG} {P : jR → va_W → Prop} (s1 : jS) : ∀ (n : Nat) (x9 : Int32) (x10 : Int32) (r : Int32 × Int32), L_Mod_parties_111 s1 n x9 x10 = some r → J G m_Mod_parties 1 0 0 P 170 [(0, .ref (ad 0)), (2, .int r.1), (3, .int r.2)] [] (mkR ad G s1) 0 0 → J G m_Mod_parties 1 0 0 P 111 [(0, .ref (ad 0)), (2, .int x9), (3, .int x10)] [] (mkR ad G s1) 0 0 := by
  intro n
  induction n with
  | zero =>
    intro x9 x10 r H
    cases (show none = some r from H)
  | succ n ih =>
    intro x9 x10 r H kx
    have H : (
    if (s1 11 0) < x10 then
      some (x9, x10)
    else
      Option.bind (α := Int32) (
        if ¬ (s1 16 0) = 0 then
          some 8
        else
          if (s1 17 0) = 0 then
            some ((s1 18 0) + 1)
          else
            some 8) fun x14 =>
      Option.bind (f_Mod_works x10 x14 s1) fun x17 =>
      Option.bind (α := Int32) (
        if x17 = 0 then
          some 0
        else
          some (1 <<< ((x10 - 1) &&& 31))) fun x20 =>
      jlet (x9 ||| x20) fun x23 =>
      jlet (x10 + 1) fun x24 =>
      L_Mod_parties_111 s1 n x23 x24) = some r := H
    refine j_iload_n (pc := 111) 2 (jd k_Mod_parties 63 rfl) rfl ?_
    refine j_aload_n (pc := 112) 0 (jd k_Mod_parties 64 rfl) rfl ?_
    refine j_get (pc := 113) (fs := flR ad s1) (v := .int (s1 11 0)) fl_Mod_207_10 0 (jd k_Mod_parties 65 rfl) rfl rfl ?_
    refine j_icmp_gt (pc := 116) (tgt := 170) (jd k_Mod_parties 66 rfl) rfl (fun h11 => ?_) (fun h11 => ?_)
    · rw [if_pos h11] at H
      cases H
      exact kx
    · rw [if_neg h11] at H
      refine j_iload_n (pc := 119) 1 (jd k_Mod_parties 67 rfl) rfl ?_
      refine j_aload_n (pc := 120) 0 (jd k_Mod_parties 68 rfl) rfl ?_
      refine j_iload_n (pc := 121) 2 (jd k_Mod_parties 69 rfl) rfl ?_
      refine j_aload_n (pc := 122) 0 (jd k_Mod_parties 70 rfl) rfl ?_
      refine j_get (pc := 123) (fs := flR ad s1) (v := .int (s1 16 0)) fl_Mod_225_10 0 (jd k_Mod_parties 71 rfl) rfl rfl ?_
      obtain ⟨x14, h15, H⟩ := obnd H
      have K16 : J G m_Mod_parties 1 0 0 P 147 [(0, .ref (ad 0)), (3, .int x10)] [.int x14, .int x10, .ref (ad 0), .int x9] (mkR ad G s1) 0 0 := by
        obtain ⟨x17, h18, H⟩ := obnd H
        refine jc_V (pc := 147) (st := [.int x9]) (c_Mod_works ad G x10 x14 s1 _ h18) L0_Mod_works w1344 w1346 w38 0 rfl rfl (jd k_Mod_parties 82 rfl) rfl (Nat.le_of_ble_eq_true rfl) (by decide) (Nat.le_refl _) (Nat.le_refl _) rfl rfl ?_
        obtain ⟨x20, h21, H⟩ := obnd H
        have K22 : J G m_Mod_parties 1 0 0 P 162 [(0, .ref (ad 0)), (3, .int x10)] [.int x20, .int x9] (mkR ad G s1) 0 0 := by
          refine j_ior (pc := 162) (jd k_Mod_parties 91 rfl) ?_
          obtain ⟨x23, e26, H⟩ := olet H
          refine j_topi e26 ?_
          refine j_istore_n (pc := 163) (lv' := [(0, .ref (ad 0)), (2, .int x23), (3, .int x10)]) (jd k_Mod_parties 92 rfl) rfl (Nat.le_of_ble_eq_true rfl) rfl ?_
          obtain ⟨x24, e25, H⟩ := olet H
          refine j_iinc (pc := 164) (lv' := [(0, .ref (ad 0)), (2, .int x23), (3, .int x24)]) 2 (jd k_Mod_parties 93 rfl) rfl e25 rfl (Nat.le_of_ble_eq_true rfl) rfl ?_
          refine j_goto (pc := 167) (tgt := 111) (jd k_Mod_parties 94 rfl) rfl ?_
          exact ih x23 x24 _ H kx
        have H := h21
        refine j_if_eq (pc := 150) (tgt := 161) (jd k_Mod_parties 83 rfl) rfl (fun h19 => ?_) (fun h19 => ?_)
        · rw [if_pos h19] at H
          refine j_iconst (pc := 161) (v := 0) (jd k_Mod_parties 90 rfl) (by decide) ?_
          cases H
          exact K22
        · rw [if_neg h19] at H
          refine j_iconst (pc := 153) (v := 1) (jd k_Mod_parties 84 rfl) (by decide) ?_
          refine j_iload_n (pc := 154) 1 (jd k_Mod_parties 85 rfl) rfl ?_
          refine j_iconst (pc := 155) (v := 1) (jd k_Mod_parties 86 rfl) (by decide) ?_
          refine j_isub (pc := 156) (jd k_Mod_parties 87 rfl) ?_
          refine j_ishl (pc := 157) (jd k_Mod_parties 88 rfl) ?_
          refine j_goto (pc := 158) (tgt := 162) (jd k_Mod_parties 89 rfl) rfl ?_
          cases H
          exact K22
      have H := h15
      refine j_if_ne (pc := 126) (tgt := 136) (jd k_Mod_parties 72 rfl) rfl (fun h12 => ?_) (fun h12 => ?_)
      · rw [if_pos h12] at H
        refine j_bipush (pc := 136) (v := 8) (jd k_Mod_parties 76 rfl) (by decide) ?_
        refine j_goto (pc := 138) (tgt := 147) (jd k_Mod_parties 77 rfl) rfl ?_
        cases H
        exact j_pick [0, 2] rfl K16
      · rw [if_neg (not_not_intro h12)] at H
        refine j_aload_n (pc := 129) 0 (jd k_Mod_parties 73 rfl) rfl ?_
        refine j_get (pc := 130) (fs := flR ad s1) (v := .int (s1 17 0)) fl_Mod_228_10 0 (jd k_Mod_parties 74 rfl) rfl rfl ?_
        refine j_if_eq (pc := 133) (tgt := 141) (jd k_Mod_parties 75 rfl) rfl (fun h13 => ?_) (fun h13 => ?_)
        · rw [if_pos h13] at H
          refine j_aload_n (pc := 141) 0 (jd k_Mod_parties 78 rfl) rfl ?_
          refine j_get (pc := 142) (fs := flR ad s1) (v := .int (s1 18 0)) fl_Mod_231_10 0 (jd k_Mod_parties 79 rfl) rfl rfl ?_
          refine j_iconst (pc := 145) (v := 1) (jd k_Mod_parties 80 rfl) (by decide) ?_
          refine j_iadd (pc := 146) (jd k_Mod_parties 81 rfl) ?_
          cases H
          exact j_pick [0, 2] rfl K16
        · rw [if_neg h13] at H
          refine j_bipush (pc := 136) (v := 8) (jd k_Mod_parties 76 rfl) (by decide) ?_
          refine j_goto (pc := 138) (tgt := 147) (jd k_Mod_parties 77 rfl) rfl ?_
          cases H
          exact j_pick [0, 2] rfl K16

set_option maxRecDepth 20000 in
theorem c_Mod_parties (ad : Nat → Nat) (G : jG) (p0 : Int32) (s : jS) (r : Int32 × jS) (H : f_Mod_parties p0 s = some r) : jCon G m_Mod_parties y_Mod_parties 1 0 0 [.ref (ad 0), .int p0] (mkR ad G s) (jEq (some (.int r.1)) (mkR ad G r.2)) := by
  refine jCon.of (by decide +kernel) rfl rfl rfl (Nat.le_of_ble_eq_true rfl) rfl ?_
  have H : (
  jlet (va_up s 0 (fun _ => 0)) fun s1 =>
  if p0 < 0 then
    some ((-1), s1)
  else
    if p0 ≤ 3 then
      if ¬ (s1 15 0) = 0 then
        if ¬ p0 = 0 then
          if ¬ p0 = 1 then
            if ¬ p0 = 2 then
              Option.bind (L_Mod_parties_111 s1 jF 0 1) fun (x27, x28) =>
              some (x27, s1)
            else
              Option.bind (α := Int32) (
                if (s1 18 0) < 7 then
                  some 0
                else
                  Option.bind (f_Mod_mask s1) fun x31 =>
                  some ((s1 27 0) &&& x31)) fun x33 =>
              some (x33, s1)
          else
            Option.bind (α := Int32) (
              if (s1 18 0) < 6 then
                some 0
              else
                Option.bind (f_Mod_mask s1) fun x37 =>
                some ((s1 26 0) &&& x37)) fun x39 =>
            some (x39, s1)
        else
          Option.bind (α := Int32) (
            if (s1 18 0) < 4 then
              some 0
            else
              Option.bind (f_Mod_mask s1) fun x43 =>
              some ((s1 25 0) &&& x43)) fun x45 =>
          some (x45, s1)
      else
        some (0, s1)
    else
      some ((-1), s1)) = some r := H
  generalize hP9 : jEq (some (.int r.1)) (mkR ad G r.2) = P
  refine j_aload_n (pc := 0) 0 (jd k_Mod_parties 0 rfl) rfl ?_
  refine j_iconst (pc := 1) (v := 0) (jd k_Mod_parties 1 rfl) (by decide) ?_
  obtain ⟨s1, e2, H⟩ := olet H
  refine j_put (pc := 2) (fs := flR ad s) (fp_Mod_170_10 _) 0 (jd k_Mod_parties 2 rfl) rfl rfl rfl (Nat.le_of_ble_eq_true rfl) ((wpR_0 ad G s _).trans (congrArg (mkR ad G) e2)) ?_
  refine j_iload_n (pc := 5) 1 (jd k_Mod_parties 3 rfl) rfl ?_
  refine j_if_lt (pc := 6) (tgt := 14) (jd k_Mod_parties 4 rfl) rfl (fun h3 => ?_) (fun h3 => ?_)
  · rw [if_pos h3] at H
    refine j_iconst (pc := 14) (v := (-1)) (jd k_Mod_parties 8 rfl) (by decide) ?_
    cases H
    subst hP9
    exact j_iret (pc := 15) (jd k_Mod_parties 9 rfl) rfl rfl ⟨rfl, rfl⟩
  · rw [if_neg h3] at H
    refine j_iload_n (pc := 9) 1 (jd k_Mod_parties 5 rfl) rfl ?_
    refine j_iconst (pc := 10) (v := 3) (jd k_Mod_parties 6 rfl) (by decide) ?_
    refine j_icmp_le (pc := 11) (tgt := 16) (jd k_Mod_parties 7 rfl) rfl (fun h4 => ?_) (fun h4 => ?_)
    · rw [if_pos h4] at H
      refine j_aload_n (pc := 16) 0 (jd k_Mod_parties 10 rfl) rfl ?_
      refine j_get (pc := 17) (fs := flR ad s1) (v := .int (s1 15 0)) fl_Mod_203_10 0 (jd k_Mod_parties 11 rfl) rfl rfl ?_
      refine j_if_ne (pc := 20) (tgt := 25) (jd k_Mod_parties 12 rfl) rfl (fun h5 => ?_) (fun h5 => ?_)
      · rw [if_pos h5] at H
        refine j_iload_n (pc := 25) 1 (jd k_Mod_parties 15 rfl) rfl ?_
        refine j_if_ne (pc := 26) (tgt := 51) (jd k_Mod_parties 16 rfl) rfl (fun h6 => ?_) (fun h6 => ?_)
        · rw [if_pos h6] at H
          refine j_iload_n (pc := 51) 1 (jd k_Mod_parties 29 rfl) rfl ?_
          refine j_iconst (pc := 52) (v := 1) (jd k_Mod_parties 30 rfl) (by decide) ?_
          refine j_icmp_ne (pc := 53) (tgt := 79) (jd k_Mod_parties 31 rfl) rfl (fun h7 => ?_) (fun h7 => ?_)
          · rw [if_pos h7] at H
            refine j_iload_n (pc := 79) 1 (jd k_Mod_parties 44 rfl) rfl ?_
            refine j_iconst (pc := 80) (v := 2) (jd k_Mod_parties 45 rfl) (by decide) ?_
            refine j_icmp_ne (pc := 81) (tgt := 107) (jd k_Mod_parties 46 rfl) rfl (fun h8 => ?_) (fun h8 => ?_)
            · rw [if_pos h8] at H
              refine j_iconst (pc := 107) (v := 0) (jd k_Mod_parties 59 rfl) (by decide) ?_
              refine j_istore_n (pc := 108) (lv' := [(0, .ref (ad 0)), (1, .int p0), (2, .int 0)]) (jd k_Mod_parties 60 rfl) rfl (Nat.le_of_ble_eq_true rfl) rfl ?_
              refine j_iconst (pc := 109) (v := 1) (jd k_Mod_parties 61 rfl) (by decide) ?_
              refine j_istore_n (pc := 110) (lv' := [(0, .ref (ad 0)), (1, .int p0), (2, .int 0), (3, .int 1)]) (jd k_Mod_parties 62 rfl) rfl (Nat.le_of_ble_eq_true rfl) rfl ?_
              obtain ⟨⟨x27, x28⟩, h29, H⟩ := obnd H
              try dsimp only at H
              refine j_pick (lv' := [(0, .ref (ad 0)), (2, .int 0), (3, .int 1)]) [0, 2, 3] rfl ?_
              refine lp_Mod_parties_111 s1 jF 0 1 _ h29 ?_
              refine j_pick (lv' := [(2, .int x27)]) [1] rfl ?_
              refine j_iload_n (pc := 170) 0 (jd k_Mod_parties 95 rfl) rfl ?_
              cases H
              subst hP9
              exact j_iret (pc := 171) (jd k_Mod_parties 96 rfl) rfl rfl ⟨rfl, rfl⟩
            · rw [if_neg (not_not_intro h8)] at H
              refine j_aload_n (pc := 84) 0 (jd k_Mod_parties 47 rfl) rfl ?_
              refine j_get (pc := 85) (fs := flR ad s1) (v := .int (s1 18 0)) fl_Mod_231_10 0 (jd k_Mod_parties 48 rfl) rfl rfl ?_
              refine j_bipush (pc := 88) (v := 7) (jd k_Mod_parties 49 rfl) (by decide) ?_
              obtain ⟨x33, h34, H⟩ := obnd H
              have K35 : J G m_Mod_parties 1 0 0 P 106 [] [.int x33] (mkR ad G s1) 0 0 := by
                cases H
                subst hP9
                exact j_iret (pc := 106) (jd k_Mod_parties 58 rfl) rfl rfl ⟨rfl, rfl⟩
              have H := h34
              refine j_icmp_lt (pc := 90) (tgt := 105) (jd k_Mod_parties 50 rfl) rfl (fun h30 => ?_) (fun h30 => ?_)
              · rw [if_pos h30] at H
                refine j_iconst (pc := 105) (v := 0) (jd k_Mod_parties 57 rfl) (by decide) ?_
                cases H
                exact j_pick [] rfl K35
              · rw [if_neg h30] at H
                refine j_aload_n (pc := 93) 0 (jd k_Mod_parties 51 rfl) rfl ?_
                refine j_get (pc := 94) (fs := flR ad s1) (v := .int (s1 27 0)) fl_Mod_249_10 0 (jd k_Mod_parties 52 rfl) rfl rfl ?_
                refine j_aload_n (pc := 97) 0 (jd k_Mod_parties 53 rfl) rfl ?_
                obtain ⟨x31, h32, H⟩ := obnd H
                refine jc_V (pc := 98) (st := [.int (s1 27 0)]) (c_Mod_mask ad G s1 _ h32) L0_Mod_mask w1434 w1436 w57 0 rfl rfl (jd k_Mod_parties 54 rfl) rfl (Nat.le_of_ble_eq_true rfl) (by decide) (Nat.le_refl _) (Nat.le_refl _) rfl rfl ?_
                refine j_iand (pc := 101) (jd k_Mod_parties 55 rfl) ?_
                refine j_goto (pc := 102) (tgt := 106) (jd k_Mod_parties 56 rfl) rfl ?_
                cases H
                exact j_pick [] rfl K35
          · rw [if_neg (not_not_intro h7)] at H
            refine j_aload_n (pc := 56) 0 (jd k_Mod_parties 32 rfl) rfl ?_
            refine j_get (pc := 57) (fs := flR ad s1) (v := .int (s1 18 0)) fl_Mod_231_10 0 (jd k_Mod_parties 33 rfl) rfl rfl ?_
            refine j_bipush (pc := 60) (v := 6) (jd k_Mod_parties 34 rfl) (by decide) ?_
            obtain ⟨x39, h40, H⟩ := obnd H
            have K41 : J G m_Mod_parties 1 0 0 P 78 [] [.int x39] (mkR ad G s1) 0 0 := by
              cases H
              subst hP9
              exact j_iret (pc := 78) (jd k_Mod_parties 43 rfl) rfl rfl ⟨rfl, rfl⟩
            have H := h40
            refine j_icmp_lt (pc := 62) (tgt := 77) (jd k_Mod_parties 35 rfl) rfl (fun h36 => ?_) (fun h36 => ?_)
            · rw [if_pos h36] at H
              refine j_iconst (pc := 77) (v := 0) (jd k_Mod_parties 42 rfl) (by decide) ?_
              cases H
              exact j_pick [] rfl K41
            · rw [if_neg h36] at H
              refine j_aload_n (pc := 65) 0 (jd k_Mod_parties 36 rfl) rfl ?_
              refine j_get (pc := 66) (fs := flR ad s1) (v := .int (s1 26 0)) fl_Mod_246_10 0 (jd k_Mod_parties 37 rfl) rfl rfl ?_
              refine j_aload_n (pc := 69) 0 (jd k_Mod_parties 38 rfl) rfl ?_
              obtain ⟨x37, h38, H⟩ := obnd H
              refine jc_V (pc := 70) (st := [.int (s1 26 0)]) (c_Mod_mask ad G s1 _ h38) L0_Mod_mask w1434 w1436 w57 0 rfl rfl (jd k_Mod_parties 39 rfl) rfl (Nat.le_of_ble_eq_true rfl) (by decide) (Nat.le_refl _) (Nat.le_refl _) rfl rfl ?_
              refine j_iand (pc := 73) (jd k_Mod_parties 40 rfl) ?_
              refine j_goto (pc := 74) (tgt := 78) (jd k_Mod_parties 41 rfl) rfl ?_
              cases H
              exact j_pick [] rfl K41
        · rw [if_neg (not_not_intro h6)] at H
          refine j_aload_n (pc := 29) 0 (jd k_Mod_parties 17 rfl) rfl ?_
          refine j_get (pc := 30) (fs := flR ad s1) (v := .int (s1 18 0)) fl_Mod_231_10 0 (jd k_Mod_parties 18 rfl) rfl rfl ?_
          refine j_iconst (pc := 33) (v := 4) (jd k_Mod_parties 19 rfl) (by decide) ?_
          obtain ⟨x45, h46, H⟩ := obnd H
          have K47 : J G m_Mod_parties 1 0 0 P 50 [] [.int x45] (mkR ad G s1) 0 0 := by
            cases H
            subst hP9
            exact j_iret (pc := 50) (jd k_Mod_parties 28 rfl) rfl rfl ⟨rfl, rfl⟩
          have H := h46
          refine j_icmp_lt (pc := 34) (tgt := 49) (jd k_Mod_parties 20 rfl) rfl (fun h42 => ?_) (fun h42 => ?_)
          · rw [if_pos h42] at H
            refine j_iconst (pc := 49) (v := 0) (jd k_Mod_parties 27 rfl) (by decide) ?_
            cases H
            exact j_pick [] rfl K47
          · rw [if_neg h42] at H
            refine j_aload_n (pc := 37) 0 (jd k_Mod_parties 21 rfl) rfl ?_
            refine j_get (pc := 38) (fs := flR ad s1) (v := .int (s1 25 0)) fl_Mod_243_10 0 (jd k_Mod_parties 22 rfl) rfl rfl ?_
            refine j_aload_n (pc := 41) 0 (jd k_Mod_parties 23 rfl) rfl ?_
            obtain ⟨x43, h44, H⟩ := obnd H
            refine jc_V (pc := 42) (st := [.int (s1 25 0)]) (c_Mod_mask ad G s1 _ h44) L0_Mod_mask w1434 w1436 w57 0 rfl rfl (jd k_Mod_parties 24 rfl) rfl (Nat.le_of_ble_eq_true rfl) (by decide) (Nat.le_refl _) (Nat.le_refl _) rfl rfl ?_
            refine j_iand (pc := 45) (jd k_Mod_parties 25 rfl) ?_
            refine j_goto (pc := 46) (tgt := 50) (jd k_Mod_parties 26 rfl) rfl ?_
            cases H
            exact j_pick [] rfl K47
      · rw [if_neg (not_not_intro h5)] at H
        refine j_iconst (pc := 23) (v := 0) (jd k_Mod_parties 13 rfl) (by decide) ?_
        cases H
        subst hP9
        exact j_iret (pc := 24) (jd k_Mod_parties 14 rfl) rfl rfl ⟨rfl, rfl⟩
    · rw [if_neg h4] at H
      refine j_iconst (pc := 14) (v := (-1)) (jd k_Mod_parties 8 rfl) (by decide) ?_
      cases H
      subst hP9
      exact j_iret (pc := 15) (jd k_Mod_parties 9 rfl) rfl rfl ⟨rfl, rfl⟩

set_option maxRecDepth 20000 in
theorem c_Mod_complaints (ad : Nat → Nat) (G : jG) (p0 : Int32) (s : jS) (r : Int32 × jS) (H : f_Mod_complaints p0 s = some r) : jCon G m_Mod_complaints y_Mod_complaints 1 0 0 [.ref (ad 0), .int p0] (mkR ad G s) (jEq (some (.int r.1)) (mkR ad G r.2)) := by
  refine jCon.of (by decide +kernel) rfl rfl rfl (Nat.le_of_ble_eq_true rfl) rfl ?_
  have H : (
  Option.bind (f_Mod_isParty p0 s) fun x1 =>
  Option.bind (α := Int32) (
    if x1 = 0 then
      some 1
    else
      some 0) fun x4 =>
  jlet (va_up s 0 (fun _ => x4)) fun s7 =>
  Option.bind (α := Int32) (
    if (s7 0 0) ≤ 0 then
      if jin (p0 - 1) 7 then
      Option.bind (f_Mod_mask s7) fun x11 =>
      some ((s7 28 (p0 - 1).toNatClampNeg) &&& x11)
      else none
    else
      some 0) fun x13 =>
  some (x13, s7)) = some r := H
  generalize hP9 : jEq (some (.int r.1)) (mkR ad G r.2) = P
  refine j_aload_n (pc := 0) 0 (jd k_Mod_complaints 0 rfl) rfl ?_
  refine j_aload_n (pc := 1) 0 (jd k_Mod_complaints 1 rfl) rfl ?_
  refine j_iload_n (pc := 2) 1 (jd k_Mod_complaints 2 rfl) rfl ?_
  obtain ⟨x1, h2, H⟩ := obnd H
  refine jc_V (pc := 3) (st := [.ref (ad 0)]) (c_Mod_isParty ad G p0 s _ h2) L0_Mod_isParty w1324 w1326 w36 0 rfl rfl (jd k_Mod_complaints 3 rfl) rfl (Nat.le_of_ble_eq_true rfl) (by decide) (Nat.le_refl _) (Nat.le_refl _) rfl rfl ?_
  obtain ⟨x4, h5, H⟩ := obnd H
  have K6 : J G m_Mod_complaints 1 0 0 P 14 [(0, .ref (ad 0)), (1, .int p0)] [.int x4, .ref (ad 0)] (mkR ad G s) 0 0 := by
    obtain ⟨s7, e8, H⟩ := olet H
    refine j_put (pc := 14) (fs := flR ad s) (fp_Mod_170_10 _) 0 (jd k_Mod_complaints 8 rfl) rfl rfl rfl (Nat.le_of_ble_eq_true rfl) ((wpR_0 ad G s _).trans (congrArg (mkR ad G) e8)) ?_
    refine j_aload_n (pc := 17) 0 (jd k_Mod_complaints 9 rfl) rfl ?_
    refine j_get (pc := 18) (fs := flR ad s7) (v := .int (s7 0 0)) fl_Mod_170_10 0 (jd k_Mod_complaints 10 rfl) rfl rfl ?_
    obtain ⟨x13, h14, H⟩ := obnd H
    have K15 : J G m_Mod_complaints 1 0 0 P 41 [] [.int x13] (mkR ad G s7) 0 0 := by
      cases H
      subst hP9
      exact j_iret (pc := 41) (jd k_Mod_complaints 23 rfl) rfl rfl ⟨rfl, rfl⟩
    have H := h14
    refine j_if_le (pc := 21) (tgt := 28) (jd k_Mod_complaints 11 rfl) rfl (fun h9 => ?_) (fun h9 => ?_)
    · rw [if_pos h9] at H
      refine j_aload_n (pc := 28) 0 (jd k_Mod_complaints 14 rfl) rfl ?_
      refine j_get (pc := 29) (fs := flR ad s7) (v := .ref (ad 11)) fl_Mod_40_10 0 (jd k_Mod_complaints 15 rfl) rfl rfl ?_
      refine j_iload_n (pc := 32) 1 (jd k_Mod_complaints 16 rfl) rfl ?_
      refine j_iconst (pc := 33) (v := 1) (jd k_Mod_complaints 17 rfl) (by decide) ?_
      refine j_isub (pc := 34) (jd k_Mod_complaints 18 rfl) ?_
      obtain ⟨h10, H⟩ := ochk H
      refine j_iald (pc := 35) (f := s7 28) 11 (jd k_Mod_complaints 19 rfl) rfl (jin.vp h10) ?_
      refine j_aload_n (pc := 36) 0 (jd k_Mod_complaints 20 rfl) rfl ?_
      obtain ⟨x11, h12, H⟩ := obnd H
      refine jc_V (pc := 37) (st := [.int (s7 28 (p0 - 1).toNatClampNeg)]) (c_Mod_mask ad G s7 _ h12) L0_Mod_mask w1434 w1436 w57 0 rfl rfl (jd k_Mod_complaints 21 rfl) rfl (Nat.le_of_ble_eq_true rfl) (by decide) (Nat.le_refl _) (Nat.le_refl _) rfl rfl ?_
      refine j_iand (pc := 40) (jd k_Mod_complaints 22 rfl) ?_
      cases H
      exact j_pick [] rfl K15
    · rw [if_neg h9] at H
      refine j_iconst (pc := 24) (v := 0) (jd k_Mod_complaints 12 rfl) (by decide) ?_
      refine j_goto (pc := 25) (tgt := 41) (jd k_Mod_complaints 13 rfl) rfl ?_
      cases H
      exact j_pick [] rfl K15
  have H := h5
  refine j_if_eq (pc := 6) (tgt := 13) (jd k_Mod_complaints 4 rfl) rfl (fun h3 => ?_) (fun h3 => ?_)
  · rw [if_pos h3] at H
    refine j_iconst (pc := 13) (v := 1) (jd k_Mod_complaints 7 rfl) (by decide) ?_
    cases H
    exact K6
  · rw [if_neg h3] at H
    refine j_iconst (pc := 9) (v := 0) (jd k_Mod_complaints 5 rfl) (by decide) ?_
    refine j_goto (pc := 10) (tgt := 14) (jd k_Mod_complaints 6 rfl) rfl ?_
    cases H
    exact K6

set_option maxRecDepth 20000 in
theorem c_Mod_received (ad : Nat → Nat) (G : jG) (p0 : Int32) (p1 : Int32) (p2 : Int32) (s : jS) (r : Int32 × jS) (H : f_Mod_received p0 p1 p2 s = some r) : jCon G m_Mod_received y_Mod_received 1 0 0 [.ref (ad 0), .int p0, .int p1, .int p2] (mkR ad G s) (jEq (some (.int r.1)) (mkR ad G r.2)) := by
  refine jCon.of (by decide +kernel) rfl rfl rfl (Nat.le_of_ble_eq_true rfl) rfl ?_
  have H : (
  Option.bind (f_Mod_isParty p0 s) fun x1 =>
  Option.bind (α := Int32) (
    if x1 = 0 then
      some 1
    else
      Option.bind (f_Mod_isParty p1 s) fun x4 =>
      if x4 = 0 then
        some 1
      else
        if p2 < 0 then
          some 1
        else
          if p2 ≤ 1 then
            some 0
          else
            some 1) fun x9 =>
  jlet (va_up s 0 (fun _ => x9)) fun s12 =>
  if (s12 0 0) ≤ 0 then
    Option.bind (f_Mod_in (s12 23 0) p0) fun x15 =>
    if x15 = 0 then
      some ((-1), s12)
    else
      if p1 ≤ (s12 13 0) then
        Option.bind (α := Int32) (
          if ¬ p2 = 0 then
            Option.bind (f_Mod_at p0 p1 s12) fun x20 =>
            if jin x20 49 then
            some (s12 31 x20.toNatClampNeg)
            else none
          else
            Option.bind (f_Mod_at p0 p1 s12) fun x23 =>
            if jin x23 49 then
            some (s12 30 x23.toNatClampNeg)
            else none) fun x26 =>
        some (x26, s12)
      else
        some ((-1), s12)
  else
    some (0, s12)) = some r := H
  generalize hP9 : jEq (some (.int r.1)) (mkR ad G r.2) = P
  refine j_aload_n (pc := 0) 0 (jd k_Mod_received 0 rfl) rfl ?_
  refine j_aload_n (pc := 1) 0 (jd k_Mod_received 1 rfl) rfl ?_
  refine j_iload_n (pc := 2) 1 (jd k_Mod_received 2 rfl) rfl ?_
  obtain ⟨x1, h2, H⟩ := obnd H
  refine jc_V (pc := 3) (st := [.ref (ad 0)]) (c_Mod_isParty ad G p0 s _ h2) L0_Mod_isParty w1324 w1326 w36 0 rfl rfl (jd k_Mod_received 3 rfl) rfl (Nat.le_of_ble_eq_true rfl) (by decide) (Nat.le_refl _) (Nat.le_refl _) rfl rfl ?_
  obtain ⟨x9, h10, H⟩ := obnd H
  have K11 : J G m_Mod_received 1 0 0 P 31 [(0, .ref (ad 0)), (1, .int p0), (2, .int p1), (3, .int p2)] [.int x9, .ref (ad 0)] (mkR ad G s) 0 0 := by
    obtain ⟨s12, e13, H⟩ := olet H
    refine j_put (pc := 31) (fs := flR ad s) (fp_Mod_170_10 _) 0 (jd k_Mod_received 17 rfl) rfl rfl rfl (Nat.le_of_ble_eq_true rfl) ((wpR_0 ad G s _).trans (congrArg (mkR ad G) e13)) ?_
    refine j_aload_n (pc := 34) 0 (jd k_Mod_received 18 rfl) rfl ?_
    refine j_get (pc := 35) (fs := flR ad s12) (v := .int (s12 0 0)) fl_Mod_170_10 0 (jd k_Mod_received 19 rfl) rfl rfl ?_
    refine j_if_le (pc := 38) (tgt := 43) (jd k_Mod_received 20 rfl) rfl (fun h14 => ?_) (fun h14 => ?_)
    · rw [if_pos h14] at H
      refine j_aload_n (pc := 43) 0 (jd k_Mod_received 23 rfl) rfl ?_
      refine j_get (pc := 44) (fs := flR ad s12) (v := .int (s12 23 0)) fl_Mod_237_10 0 (jd k_Mod_received 24 rfl) rfl rfl ?_
      refine j_iload_n (pc := 47) 1 (jd k_Mod_received 25 rfl) rfl ?_
      obtain ⟨x15, h16, H⟩ := obnd H
      refine jc_S (pc := 48) (st := []) (c_Mod_in G _ (s12 23 0) p0 _ h16) L0_Mod_in w1384 w1385 (jd k_Mod_received 26 rfl) rfl (Nat.le_of_ble_eq_true rfl) (by decide) (Nat.le_refl _) (Nat.le_refl _) rfl rfl ?_
      refine j_if_eq (pc := 51) (tgt := 62) (jd k_Mod_received 27 rfl) rfl (fun h17 => ?_) (fun h17 => ?_)
      · rw [if_pos h17] at H
        refine j_iconst (pc := 62) (v := (-1)) (jd k_Mod_received 32 rfl) (by decide) ?_
        cases H
        subst hP9
        exact j_iret (pc := 63) (jd k_Mod_received 33 rfl) rfl rfl ⟨rfl, rfl⟩
      · rw [if_neg h17] at H
        refine j_iload_n (pc := 54) 2 (jd k_Mod_received 28 rfl) rfl ?_
        refine j_aload_n (pc := 55) 0 (jd k_Mod_received 29 rfl) rfl ?_
        refine j_get (pc := 56) (fs := flR ad s12) (v := .int (s12 13 0)) fl_Mod_219_10 0 (jd k_Mod_received 30 rfl) rfl rfl ?_
        refine j_icmp_le (pc := 59) (tgt := 64) (jd k_Mod_received 31 rfl) rfl (fun h18 => ?_) (fun h18 => ?_)
        · rw [if_pos h18] at H
          refine j_iload_n (pc := 64) 3 (jd k_Mod_received 34 rfl) rfl ?_
          obtain ⟨x26, h27, H⟩ := obnd H
          have K28 : J G m_Mod_received 1 0 0 P 93 [] [.int x26] (mkR ad G s12) 0 0 := by
            cases H
            subst hP9
            exact j_iret (pc := 93) (jd k_Mod_received 51 rfl) rfl rfl ⟨rfl, rfl⟩
          have H := h27
          refine j_if_ne (pc := 65) (tgt := 82) (jd k_Mod_received 35 rfl) rfl (fun h19 => ?_) (fun h19 => ?_)
          · rw [if_pos h19] at H
            refine j_aload_n (pc := 82) 0 (jd k_Mod_received 44 rfl) rfl ?_
            refine j_get (pc := 83) (fs := flR ad s12) (v := .ref (ad 14)) fl_Mod_49_10 0 (jd k_Mod_received 45 rfl) rfl rfl ?_
            refine j_aload_n (pc := 86) 0 (jd k_Mod_received 46 rfl) rfl ?_
            refine j_iload_n (pc := 87) 1 (jd k_Mod_received 47 rfl) rfl ?_
            refine j_iload_n (pc := 88) 2 (jd k_Mod_received 48 rfl) rfl ?_
            obtain ⟨x20, h21, H⟩ := obnd H
            refine jc_V (pc := 89) (st := [.ref (ad 14)]) (c_Mod_at ad G p0 p1 s12 _ h21) L0_Mod_at w1364 w1366 w43 0 rfl rfl (jd k_Mod_received 49 rfl) rfl (Nat.le_of_ble_eq_true rfl) (by decide) (Nat.le_refl _) (Nat.le_refl _) rfl rfl ?_
            obtain ⟨h22, H⟩ := ochk H
            refine j_iald (pc := 92) (f := s12 31) 14 (jd k_Mod_received 50 rfl) rfl (jin.vp h22) ?_
            cases H
            exact j_pick [] rfl K28
          · rw [if_neg (not_not_intro h19)] at H
            refine j_aload_n (pc := 68) 0 (jd k_Mod_received 36 rfl) rfl ?_
            refine j_get (pc := 69) (fs := flR ad s12) (v := .ref (ad 13)) fl_Mod_46_10 0 (jd k_Mod_received 37 rfl) rfl rfl ?_
            refine j_aload_n (pc := 72) 0 (jd k_Mod_received 38 rfl) rfl ?_
            refine j_iload_n (pc := 73) 1 (jd k_Mod_received 39 rfl) rfl ?_
            refine j_iload_n (pc := 74) 2 (jd k_Mod_received 40 rfl) rfl ?_
            obtain ⟨x23, h24, H⟩ := obnd H
            refine jc_V (pc := 75) (st := [.ref (ad 13)]) (c_Mod_at ad G p0 p1 s12 _ h24) L0_Mod_at w1364 w1366 w43 0 rfl rfl (jd k_Mod_received 41 rfl) rfl (Nat.le_of_ble_eq_true rfl) (by decide) (Nat.le_refl _) (Nat.le_refl _) rfl rfl ?_
            obtain ⟨h25, H⟩ := ochk H
            refine j_iald (pc := 78) (f := s12 30) 13 (jd k_Mod_received 42 rfl) rfl (jin.vp h25) ?_
            refine j_goto (pc := 79) (tgt := 93) (jd k_Mod_received 43 rfl) rfl ?_
            cases H
            exact j_pick [] rfl K28
        · rw [if_neg h18] at H
          refine j_iconst (pc := 62) (v := (-1)) (jd k_Mod_received 32 rfl) (by decide) ?_
          cases H
          subst hP9
          exact j_iret (pc := 63) (jd k_Mod_received 33 rfl) rfl rfl ⟨rfl, rfl⟩
    · rw [if_neg h14] at H
      refine j_iconst (pc := 41) (v := 0) (jd k_Mod_received 21 rfl) (by decide) ?_
      cases H
      subst hP9
      exact j_iret (pc := 42) (jd k_Mod_received 22 rfl) rfl rfl ⟨rfl, rfl⟩
  have H := h10
  refine j_if_eq (pc := 6) (tgt := 26) (jd k_Mod_received 4 rfl) rfl (fun h3 => ?_) (fun h3 => ?_)
  · rw [if_pos h3] at H
    refine j_iconst (pc := 26) (v := 1) (jd k_Mod_received 14 rfl) (by decide) ?_
    refine j_goto (pc := 27) (tgt := 31) (jd k_Mod_received 15 rfl) rfl ?_
    cases H
    exact K11
  · rw [if_neg h3] at H
    refine j_aload_n (pc := 9) 0 (jd k_Mod_received 5 rfl) rfl ?_
    refine j_iload_n (pc := 10) 2 (jd k_Mod_received 6 rfl) rfl ?_
    obtain ⟨x4, h5, H⟩ := obnd H
    refine jc_V (pc := 11) (st := [.ref (ad 0)]) (c_Mod_isParty ad G p1 s _ h5) L0_Mod_isParty w1324 w1326 w36 0 rfl rfl (jd k_Mod_received 7 rfl) rfl (Nat.le_of_ble_eq_true rfl) (by decide) (Nat.le_refl _) (Nat.le_refl _) rfl rfl ?_
    refine j_if_eq (pc := 14) (tgt := 26) (jd k_Mod_received 8 rfl) rfl (fun h6 => ?_) (fun h6 => ?_)
    · rw [if_pos h6] at H
      refine j_iconst (pc := 26) (v := 1) (jd k_Mod_received 14 rfl) (by decide) ?_
      refine j_goto (pc := 27) (tgt := 31) (jd k_Mod_received 15 rfl) rfl ?_
      cases H
      exact K11
    · rw [if_neg h6] at H
      refine j_iload_n (pc := 17) 3 (jd k_Mod_received 9 rfl) rfl ?_
      refine j_if_lt (pc := 18) (tgt := 26) (jd k_Mod_received 10 rfl) rfl (fun h7 => ?_) (fun h7 => ?_)
      · rw [if_pos h7] at H
        refine j_iconst (pc := 26) (v := 1) (jd k_Mod_received 14 rfl) (by decide) ?_
        refine j_goto (pc := 27) (tgt := 31) (jd k_Mod_received 15 rfl) rfl ?_
        cases H
        exact K11
      · rw [if_neg h7] at H
        refine j_iload_n (pc := 21) 3 (jd k_Mod_received 11 rfl) rfl ?_
        refine j_iconst (pc := 22) (v := 1) (jd k_Mod_received 12 rfl) (by decide) ?_
        refine j_icmp_le (pc := 23) (tgt := 30) (jd k_Mod_received 13 rfl) rfl (fun h8 => ?_) (fun h8 => ?_)
        · rw [if_pos h8] at H
          refine j_iconst (pc := 30) (v := 0) (jd k_Mod_received 16 rfl) (by decide) ?_
          cases H
          exact K11
        · rw [if_neg h8] at H
          refine j_iconst (pc := 26) (v := 1) (jd k_Mod_received 14 rfl) (by decide) ?_
          refine j_goto (pc := 27) (tgt := 31) (jd k_Mod_received 15 rfl) rfl ?_
          cases H
          exact K11

set_option maxRecDepth 20000 in
theorem c_Mod_commitment (ad : Nat → Nat) (G : jG) (p0 : Int32) (p1 : Int32) (p2 : Int32) (s : jS) (r : Int32 × jS) (H : f_Mod_commitment p0 p1 p2 s = some r) : jCon G m_Mod_commitment y_Mod_commitment 1 0 0 [.ref (ad 0), .int p0, .int p1, .int p2] (mkR ad G s) (jEq (some (.int r.1)) (mkR ad G r.2)) := by
  refine jCon.of (by decide +kernel) rfl rfl rfl (Nat.le_of_ble_eq_true rfl) rfl ?_
  have H : (
  Option.bind (f_Mod_isParty p0 s) fun x1 =>
  Option.bind (α := Int32) (
    if x1 = 0 then
      some 1
    else
      if p1 < 0 then
        some 1
      else
        if (s 12 0) ≤ p1 then
          some 1
        else
          if p2 < 0 then
            some 1
          else
            if p2 ≤ 1 then
              some 0
            else
              some 1) fun x8 =>
  jlet (va_up s 0 (fun _ => x8)) fun s11 =>
  if (s11 0 0) ≤ 0 then
    Option.bind (α := Int32) (
      if ¬ p2 = 0 then
        some (s11 24 0)
      else
        some (s11 23 0)) fun x15 =>
    Option.bind (f_Mod_in x15 p0) fun x18 =>
    if x18 = 0 then
      some ((-1), s11)
    else
      if p1 < (s11 14 0) then
        Option.bind (α := Int32) (
          if ¬ p2 = 0 then
            if jin (((7 * p0) - 7) + p1) 49 then
            some (s11 35 (((7 * p0) - 7) + p1).toNatClampNeg)
            else none
          else
            if jin (((7 * p0) - 7) + p1) 49 then
            some (s11 34 (((7 * p0) - 7) + p1).toNatClampNeg)
            else none) fun x25 =>
        Option.bind (f_Mod_element x25 s11) fun x28 =>
        some (x28, s11)
      else
        some ((-1), s11)
  else
    some (0, s11)) = some r := H
  generalize hP9 : jEq (some (.int r.1)) (mkR ad G r.2) = P
  refine j_aload_n (pc := 0) 0 (jd k_Mod_commitment 0 rfl) rfl ?_
  refine j_aload_n (pc := 1) 0 (jd k_Mod_commitment 1 rfl) rfl ?_
  refine j_iload_n (pc := 2) 1 (jd k_Mod_commitment 2 rfl) rfl ?_
  obtain ⟨x1, h2, H⟩ := obnd H
  refine jc_V (pc := 3) (st := [.ref (ad 0)]) (c_Mod_isParty ad G p0 s _ h2) L0_Mod_isParty w1324 w1326 w36 0 rfl rfl (jd k_Mod_commitment 3 rfl) rfl (Nat.le_of_ble_eq_true rfl) (by decide) (Nat.le_refl _) (Nat.le_refl _) rfl rfl ?_
  obtain ⟨x8, h9, H⟩ := obnd H
  have K10 : J G m_Mod_commitment 1 0 0 P 35 [(0, .ref (ad 0)), (1, .int p0), (2, .int p1), (3, .int p2)] [.int x8, .ref (ad 0)] (mkR ad G s) 0 0 := by
    obtain ⟨s11, e12, H⟩ := olet H
    refine j_put (pc := 35) (fs := flR ad s) (fp_Mod_170_10 _) 0 (jd k_Mod_commitment 19 rfl) rfl rfl rfl (Nat.le_of_ble_eq_true rfl) ((wpR_0 ad G s _).trans (congrArg (mkR ad G) e12)) ?_
    refine j_aload_n (pc := 38) 0 (jd k_Mod_commitment 20 rfl) rfl ?_
    refine j_get (pc := 39) (fs := flR ad s11) (v := .int (s11 0 0)) fl_Mod_170_10 0 (jd k_Mod_commitment 21 rfl) rfl rfl ?_
    refine j_if_le (pc := 42) (tgt := 47) (jd k_Mod_commitment 22 rfl) rfl (fun h13 => ?_) (fun h13 => ?_)
    · rw [if_pos h13] at H
      refine j_iload_n (pc := 47) 3 (jd k_Mod_commitment 25 rfl) rfl ?_
      obtain ⟨x15, h16, H⟩ := obnd H
      have K17 : J G m_Mod_commitment 1 0 0 P 62 [(0, .ref (ad 0)), (1, .int p0), (2, .int p1), (3, .int p2)] [.int x15] (mkR ad G s11) 0 0 := by
        refine j_iload_n (pc := 62) 1 (jd k_Mod_commitment 32 rfl) rfl ?_
        obtain ⟨x18, h19, H⟩ := obnd H
        refine jc_S (pc := 63) (st := []) (c_Mod_in G _ x15 p0 _ h19) L0_Mod_in w1384 w1385 (jd k_Mod_commitment 33 rfl) rfl (Nat.le_of_ble_eq_true rfl) (by decide) (Nat.le_refl _) (Nat.le_refl _) rfl rfl ?_
        refine j_if_eq (pc := 66) (tgt := 77) (jd k_Mod_commitment 34 rfl) rfl (fun h20 => ?_) (fun h20 => ?_)
        · rw [if_pos h20] at H
          refine j_iconst (pc := 77) (v := (-1)) (jd k_Mod_commitment 39 rfl) (by decide) ?_
          cases H
          subst hP9
          exact j_iret (pc := 78) (jd k_Mod_commitment 40 rfl) rfl rfl ⟨rfl, rfl⟩
        · rw [if_neg h20] at H
          refine j_iload_n (pc := 69) 2 (jd k_Mod_commitment 35 rfl) rfl ?_
          refine j_aload_n (pc := 70) 0 (jd k_Mod_commitment 36 rfl) rfl ?_
          refine j_get (pc := 71) (fs := flR ad s11) (v := .int (s11 14 0)) fl_Mod_222_10 0 (jd k_Mod_commitment 37 rfl) rfl rfl ?_
          refine j_icmp_lt (pc := 74) (tgt := 79) (jd k_Mod_commitment 38 rfl) rfl (fun h21 => ?_) (fun h21 => ?_)
          · rw [if_pos h21] at H
            refine j_aload_n (pc := 79) 0 (jd k_Mod_commitment 41 rfl) rfl ?_
            refine j_iload_n (pc := 80) 3 (jd k_Mod_commitment 42 rfl) rfl ?_
            obtain ⟨x25, h26, H⟩ := obnd H
            have K27 : J G m_Mod_commitment 1 0 0 P 115 [] [.int x25, .ref (ad 0)] (mkR ad G s11) 0 0 := by
              obtain ⟨x28, h29, H⟩ := obnd H
              refine jc_V (pc := 115) (st := []) (c_Mod_element ad G x25 s11 _ h29) L0_Mod_element w1356 w1358 w41 0 rfl rfl (jd k_Mod_commitment 65 rfl) rfl (Nat.le_of_ble_eq_true rfl) (by decide) (Nat.le_refl _) (Nat.le_refl _) rfl rfl ?_
              cases H
              subst hP9
              exact j_iret (pc := 118) (jd k_Mod_commitment 66 rfl) rfl rfl ⟨rfl, rfl⟩
            have H := h26
            refine j_if_ne (pc := 81) (tgt := 101) (jd k_Mod_commitment 43 rfl) rfl (fun h22 => ?_) (fun h22 => ?_)
            · rw [if_pos h22] at H
              refine j_aload_n (pc := 101) 0 (jd k_Mod_commitment 55 rfl) rfl ?_
              refine j_get (pc := 102) (fs := flR ad s11) (v := .ref (ad 18)) fl_Mod_61_10 0 (jd k_Mod_commitment 56 rfl) rfl rfl ?_
              refine j_bipush (pc := 105) (v := 7) (jd k_Mod_commitment 57 rfl) (by decide) ?_
              refine j_iload_n (pc := 107) 1 (jd k_Mod_commitment 58 rfl) rfl ?_
              refine j_imul (pc := 108) (jd k_Mod_commitment 59 rfl) ?_
              refine j_bipush (pc := 109) (v := 7) (jd k_Mod_commitment 60 rfl) (by decide) ?_
              refine j_isub (pc := 111) (jd k_Mod_commitment 61 rfl) ?_
              refine j_iload_n (pc := 112) 2 (jd k_Mod_commitment 62 rfl) rfl ?_
              refine j_iadd (pc := 113) (jd k_Mod_commitment 63 rfl) ?_
              obtain ⟨h23, H⟩ := ochk H
              refine j_iald (pc := 114) (f := s11 35) 18 (jd k_Mod_commitment 64 rfl) rfl (jin.vp h23) ?_
              cases H
              exact j_pick [] rfl K27
            · rw [if_neg (not_not_intro h22)] at H
              refine j_aload_n (pc := 84) 0 (jd k_Mod_commitment 44 rfl) rfl ?_
              refine j_get (pc := 85) (fs := flR ad s11) (v := .ref (ad 17)) fl_Mod_58_10 0 (jd k_Mod_commitment 45 rfl) rfl rfl ?_
              refine j_bipush (pc := 88) (v := 7) (jd k_Mod_commitment 46 rfl) (by decide) ?_
              refine j_iload_n (pc := 90) 1 (jd k_Mod_commitment 47 rfl) rfl ?_
              refine j_imul (pc := 91) (jd k_Mod_commitment 48 rfl) ?_
              refine j_bipush (pc := 92) (v := 7) (jd k_Mod_commitment 49 rfl) (by decide) ?_
              refine j_isub (pc := 94) (jd k_Mod_commitment 50 rfl) ?_
              refine j_iload_n (pc := 95) 2 (jd k_Mod_commitment 51 rfl) rfl ?_
              refine j_iadd (pc := 96) (jd k_Mod_commitment 52 rfl) ?_
              obtain ⟨h24, H⟩ := ochk H
              refine j_iald (pc := 97) (f := s11 34) 17 (jd k_Mod_commitment 53 rfl) rfl (jin.vp h24) ?_
              refine j_goto (pc := 98) (tgt := 115) (jd k_Mod_commitment 54 rfl) rfl ?_
              cases H
              exact j_pick [] rfl K27
          · rw [if_neg h21] at H
            refine j_iconst (pc := 77) (v := (-1)) (jd k_Mod_commitment 39 rfl) (by decide) ?_
            cases H
            subst hP9
            exact j_iret (pc := 78) (jd k_Mod_commitment 40 rfl) rfl rfl ⟨rfl, rfl⟩
      have H := h16
      refine j_if_ne (pc := 48) (tgt := 58) (jd k_Mod_commitment 26 rfl) rfl (fun h14 => ?_) (fun h14 => ?_)
      · rw [if_pos h14] at H
        refine j_aload_n (pc := 58) 0 (jd k_Mod_commitment 30 rfl) rfl ?_
        refine j_get (pc := 59) (fs := flR ad s11) (v := .int (s11 24 0)) fl_Mod_240_10 0 (jd k_Mod_commitment 31 rfl) rfl rfl ?_
        cases H
        exact K17
      · rw [if_neg (not_not_intro h14)] at H
        refine j_aload_n (pc := 51) 0 (jd k_Mod_commitment 27 rfl) rfl ?_
        refine j_get (pc := 52) (fs := flR ad s11) (v := .int (s11 23 0)) fl_Mod_237_10 0 (jd k_Mod_commitment 28 rfl) rfl rfl ?_
        refine j_goto (pc := 55) (tgt := 62) (jd k_Mod_commitment 29 rfl) rfl ?_
        cases H
        exact K17
    · rw [if_neg h13] at H
      refine j_iconst (pc := 45) (v := 0) (jd k_Mod_commitment 23 rfl) (by decide) ?_
      cases H
      subst hP9
      exact j_iret (pc := 46) (jd k_Mod_commitment 24 rfl) rfl rfl ⟨rfl, rfl⟩
  have H := h9
  refine j_if_eq (pc := 6) (tgt := 30) (jd k_Mod_commitment 4 rfl) rfl (fun h3 => ?_) (fun h3 => ?_)
  · rw [if_pos h3] at H
    refine j_iconst (pc := 30) (v := 1) (jd k_Mod_commitment 16 rfl) (by decide) ?_
    refine j_goto (pc := 31) (tgt := 35) (jd k_Mod_commitment 17 rfl) rfl ?_
    cases H
    exact K10
  · rw [if_neg h3] at H
    refine j_iload_n (pc := 9) 2 (jd k_Mod_commitment 5 rfl) rfl ?_
    refine j_if_lt (pc := 10) (tgt := 30) (jd k_Mod_commitment 6 rfl) rfl (fun h4 => ?_) (fun h4 => ?_)
    · rw [if_pos h4] at H
      refine j_iconst (pc := 30) (v := 1) (jd k_Mod_commitment 16 rfl) (by decide) ?_
      refine j_goto (pc := 31) (tgt := 35) (jd k_Mod_commitment 17 rfl) rfl ?_
      cases H
      exact K10
    · rw [if_neg h4] at H
      refine j_iload_n (pc := 13) 2 (jd k_Mod_commitment 7 rfl) rfl ?_
      refine j_aload_n (pc := 14) 0 (jd k_Mod_commitment 8 rfl) rfl ?_
      refine j_get (pc := 15) (fs := flR ad s) (v := .int (s 12 0)) fl_Mod_216_10 0 (jd k_Mod_commitment 9 rfl) rfl rfl ?_
      refine j_icmp_ge (pc := 18) (tgt := 30) (jd k_Mod_commitment 10 rfl) rfl (fun h5 => ?_) (fun h5 => ?_)
      · rw [if_pos h5] at H
        refine j_iconst (pc := 30) (v := 1) (jd k_Mod_commitment 16 rfl) (by decide) ?_
        refine j_goto (pc := 31) (tgt := 35) (jd k_Mod_commitment 17 rfl) rfl ?_
        cases H
        exact K10
      · rw [if_neg h5] at H
        refine j_iload_n (pc := 21) 3 (jd k_Mod_commitment 11 rfl) rfl ?_
        refine j_if_lt (pc := 22) (tgt := 30) (jd k_Mod_commitment 12 rfl) rfl (fun h6 => ?_) (fun h6 => ?_)
        · rw [if_pos h6] at H
          refine j_iconst (pc := 30) (v := 1) (jd k_Mod_commitment 16 rfl) (by decide) ?_
          refine j_goto (pc := 31) (tgt := 35) (jd k_Mod_commitment 17 rfl) rfl ?_
          cases H
          exact K10
        · rw [if_neg h6] at H
          refine j_iload_n (pc := 25) 3 (jd k_Mod_commitment 13 rfl) rfl ?_
          refine j_iconst (pc := 26) (v := 1) (jd k_Mod_commitment 14 rfl) (by decide) ?_
          refine j_icmp_le (pc := 27) (tgt := 34) (jd k_Mod_commitment 15 rfl) rfl (fun h7 => ?_) (fun h7 => ?_)
          · rw [if_pos h7] at H
            refine j_iconst (pc := 34) (v := 0) (jd k_Mod_commitment 18 rfl) (by decide) ?_
            cases H
            exact K10
          · rw [if_neg h7] at H
            refine j_iconst (pc := 30) (v := 1) (jd k_Mod_commitment 16 rfl) (by decide) ?_
            refine j_goto (pc := 31) (tgt := 35) (jd k_Mod_commitment 17 rfl) rfl ?_
            cases H
            exact K10

set_option maxRecDepth 20000 in
theorem c_Mod_share (ad : Nat → Nat) (G : jG) (p0 : Int32) (p1 : Int32) (s : jS) (r : Int32 × jS) (H : f_Mod_share p0 p1 s = some r) : jCon G m_Mod_share y_Mod_share 1 0 0 [.ref (ad 0), .int p0, .int p1] (mkR ad G s) (jEq (some (.int r.1)) (mkR ad G r.2)) := by
  refine jCon.of (by decide +kernel) rfl rfl rfl (Nat.le_of_ble_eq_true rfl) rfl ?_
  have H : (
  Option.bind (f_Mod_isParty p0 s) fun x1 =>
  Option.bind (α := Int32) (
    if x1 = 0 then
      some 1
    else
      if p1 < 0 then
        some 1
      else
        if p1 ≤ 1 then
          some 0
        else
          some 1) fun x6 =>
  jlet (va_up s 0 (fun _ => x6)) fun s9 =>
  if (s9 0 0) ≤ 0 then
    if (s9 18 0) < 4 then
      some ((-1), s9)
    else
      if (s9 17 0) = 0 then
        Option.bind (α := Int32) (
          if ¬ p1 = 0 then
            if jin (p0 - 1) 7 then
            some (s9 37 (p0 - 1).toNatClampNeg)
            else none
          else
            if jin (p0 - 1) 7 then
            some (s9 36 (p0 - 1).toNatClampNeg)
            else none) fun x17 =>
        some (x17, s9)
      else
        if ¬ (s9 18 0) = 4 then
          Option.bind (α := Int32) (
            if ¬ p1 = 0 then
              if jin (p0 - 1) 7 then
              some (s9 37 (p0 - 1).toNatClampNeg)
              else none
            else
              if jin (p0 - 1) 7 then
              some (s9 36 (p0 - 1).toNatClampNeg)
              else none) fun x24 =>
          some (x24, s9)
        else
          some ((-1), s9)
  else
    some (0, s9)) = some r := H
  generalize hP9 : jEq (some (.int r.1)) (mkR ad G r.2) = P
  refine j_aload_n (pc := 0) 0 (jd k_Mod_share 0 rfl) rfl ?_
  refine j_aload_n (pc := 1) 0 (jd k_Mod_share 1 rfl) rfl ?_
  refine j_iload_n (pc := 2) 1 (jd k_Mod_share 2 rfl) rfl ?_
  obtain ⟨x1, h2, H⟩ := obnd H
  refine jc_V (pc := 3) (st := [.ref (ad 0)]) (c_Mod_isParty ad G p0 s _ h2) L0_Mod_isParty w1324 w1326 w36 0 rfl rfl (jd k_Mod_share 3 rfl) rfl (Nat.le_of_ble_eq_true rfl) (by decide) (Nat.le_refl _) (Nat.le_refl _) rfl rfl ?_
  obtain ⟨x6, h7, H⟩ := obnd H
  have K8 : J G m_Mod_share 1 0 0 P 23 [(0, .ref (ad 0)), (1, .int p0), (2, .int p1)] [.int x6, .ref (ad 0)] (mkR ad G s) 0 0 := by
    obtain ⟨s9, e10, H⟩ := olet H
    refine j_put (pc := 23) (fs := flR ad s) (fp_Mod_170_10 _) 0 (jd k_Mod_share 13 rfl) rfl rfl rfl (Nat.le_of_ble_eq_true rfl) ((wpR_0 ad G s _).trans (congrArg (mkR ad G) e10)) ?_
    refine j_aload_n (pc := 26) 0 (jd k_Mod_share 14 rfl) rfl ?_
    refine j_get (pc := 27) (fs := flR ad s9) (v := .int (s9 0 0)) fl_Mod_170_10 0 (jd k_Mod_share 15 rfl) rfl rfl ?_
    refine j_if_le (pc := 30) (tgt := 35) (jd k_Mod_share 16 rfl) rfl (fun h11 => ?_) (fun h11 => ?_)
    · rw [if_pos h11] at H
      refine j_aload_n (pc := 35) 0 (jd k_Mod_share 19 rfl) rfl ?_
      refine j_get (pc := 36) (fs := flR ad s9) (v := .int (s9 18 0)) fl_Mod_231_10 0 (jd k_Mod_share 20 rfl) rfl rfl ?_
      refine j_iconst (pc := 39) (v := 4) (jd k_Mod_share 21 rfl) (by decide) ?_
      refine j_icmp_lt (pc := 40) (tgt := 58) (jd k_Mod_share 22 rfl) rfl (fun h12 => ?_) (fun h12 => ?_)
      · rw [if_pos h12] at H
        refine j_iconst (pc := 58) (v := (-1)) (jd k_Mod_share 30 rfl) (by decide) ?_
        cases H
        subst hP9
        exact j_iret (pc := 59) (jd k_Mod_share 31 rfl) rfl rfl ⟨rfl, rfl⟩
      · rw [if_neg h12] at H
        refine j_aload_n (pc := 43) 0 (jd k_Mod_share 23 rfl) rfl ?_
        refine j_get (pc := 44) (fs := flR ad s9) (v := .int (s9 17 0)) fl_Mod_228_10 0 (jd k_Mod_share 24 rfl) rfl rfl ?_
        refine j_if_eq (pc := 47) (tgt := 60) (jd k_Mod_share 25 rfl) rfl (fun h13 => ?_) (fun h13 => ?_)
        · rw [if_pos h13] at H
          refine j_iload_n (pc := 60) 2 (jd k_Mod_share 32 rfl) rfl ?_
          obtain ⟨x17, h18, H⟩ := obnd H
          have K19 : J G m_Mod_share 1 0 0 P 83 [] [.int x17] (mkR ad G s9) 0 0 := by
            cases H
            subst hP9
            exact j_iret (pc := 83) (jd k_Mod_share 47 rfl) rfl rfl ⟨rfl, rfl⟩
          have H := h18
          refine j_if_ne (pc := 61) (tgt := 75) (jd k_Mod_share 33 rfl) rfl (fun h14 => ?_) (fun h14 => ?_)
          · rw [if_pos h14] at H
            refine j_aload_n (pc := 75) 0 (jd k_Mod_share 41 rfl) rfl ?_
            refine j_get (pc := 76) (fs := flR ad s9) (v := .ref (ad 20)) fl_Mod_67_10 0 (jd k_Mod_share 42 rfl) rfl rfl ?_
            refine j_iload_n (pc := 79) 1 (jd k_Mod_share 43 rfl) rfl ?_
            refine j_iconst (pc := 80) (v := 1) (jd k_Mod_share 44 rfl) (by decide) ?_
            refine j_isub (pc := 81) (jd k_Mod_share 45 rfl) ?_
            obtain ⟨h15, H⟩ := ochk H
            refine j_iald (pc := 82) (f := s9 37) 20 (jd k_Mod_share 46 rfl) rfl (jin.vp h15) ?_
            cases H
            exact j_pick [] rfl K19
          · rw [if_neg (not_not_intro h14)] at H
            refine j_aload_n (pc := 64) 0 (jd k_Mod_share 34 rfl) rfl ?_
            refine j_get (pc := 65) (fs := flR ad s9) (v := .ref (ad 19)) fl_Mod_64_10 0 (jd k_Mod_share 35 rfl) rfl rfl ?_
            refine j_iload_n (pc := 68) 1 (jd k_Mod_share 36 rfl) rfl ?_
            refine j_iconst (pc := 69) (v := 1) (jd k_Mod_share 37 rfl) (by decide) ?_
            refine j_isub (pc := 70) (jd k_Mod_share 38 rfl) ?_
            obtain ⟨h16, H⟩ := ochk H
            refine j_iald (pc := 71) (f := s9 36) 19 (jd k_Mod_share 39 rfl) rfl (jin.vp h16) ?_
            refine j_goto (pc := 72) (tgt := 83) (jd k_Mod_share 40 rfl) rfl ?_
            cases H
            exact j_pick [] rfl K19
        · rw [if_neg h13] at H
          refine j_aload_n (pc := 50) 0 (jd k_Mod_share 26 rfl) rfl ?_
          refine j_get (pc := 51) (fs := flR ad s9) (v := .int (s9 18 0)) fl_Mod_231_10 0 (jd k_Mod_share 27 rfl) rfl rfl ?_
          refine j_iconst (pc := 54) (v := 4) (jd k_Mod_share 28 rfl) (by decide) ?_
          refine j_icmp_ne (pc := 55) (tgt := 60) (jd k_Mod_share 29 rfl) rfl (fun h20 => ?_) (fun h20 => ?_)
          · rw [if_pos h20] at H
            refine j_iload_n (pc := 60) 2 (jd k_Mod_share 32 rfl) rfl ?_
            obtain ⟨x24, h25, H⟩ := obnd H
            have K26 : J G m_Mod_share 1 0 0 P 83 [] [.int x24] (mkR ad G s9) 0 0 := by
              cases H
              subst hP9
              exact j_iret (pc := 83) (jd k_Mod_share 47 rfl) rfl rfl ⟨rfl, rfl⟩
            have H := h25
            refine j_if_ne (pc := 61) (tgt := 75) (jd k_Mod_share 33 rfl) rfl (fun h21 => ?_) (fun h21 => ?_)
            · rw [if_pos h21] at H
              refine j_aload_n (pc := 75) 0 (jd k_Mod_share 41 rfl) rfl ?_
              refine j_get (pc := 76) (fs := flR ad s9) (v := .ref (ad 20)) fl_Mod_67_10 0 (jd k_Mod_share 42 rfl) rfl rfl ?_
              refine j_iload_n (pc := 79) 1 (jd k_Mod_share 43 rfl) rfl ?_
              refine j_iconst (pc := 80) (v := 1) (jd k_Mod_share 44 rfl) (by decide) ?_
              refine j_isub (pc := 81) (jd k_Mod_share 45 rfl) ?_
              obtain ⟨h22, H⟩ := ochk H
              refine j_iald (pc := 82) (f := s9 37) 20 (jd k_Mod_share 46 rfl) rfl (jin.vp h22) ?_
              cases H
              exact j_pick [] rfl K26
            · rw [if_neg (not_not_intro h21)] at H
              refine j_aload_n (pc := 64) 0 (jd k_Mod_share 34 rfl) rfl ?_
              refine j_get (pc := 65) (fs := flR ad s9) (v := .ref (ad 19)) fl_Mod_64_10 0 (jd k_Mod_share 35 rfl) rfl rfl ?_
              refine j_iload_n (pc := 68) 1 (jd k_Mod_share 36 rfl) rfl ?_
              refine j_iconst (pc := 69) (v := 1) (jd k_Mod_share 37 rfl) (by decide) ?_
              refine j_isub (pc := 70) (jd k_Mod_share 38 rfl) ?_
              obtain ⟨h23, H⟩ := ochk H
              refine j_iald (pc := 71) (f := s9 36) 19 (jd k_Mod_share 39 rfl) rfl (jin.vp h23) ?_
              refine j_goto (pc := 72) (tgt := 83) (jd k_Mod_share 40 rfl) rfl ?_
              cases H
              exact j_pick [] rfl K26
          · rw [if_neg (not_not_intro h20)] at H
            refine j_iconst (pc := 58) (v := (-1)) (jd k_Mod_share 30 rfl) (by decide) ?_
            cases H
            subst hP9
            exact j_iret (pc := 59) (jd k_Mod_share 31 rfl) rfl rfl ⟨rfl, rfl⟩
    · rw [if_neg h11] at H
      refine j_iconst (pc := 33) (v := 0) (jd k_Mod_share 17 rfl) (by decide) ?_
      cases H
      subst hP9
      exact j_iret (pc := 34) (jd k_Mod_share 18 rfl) rfl rfl ⟨rfl, rfl⟩
  have H := h7
  refine j_if_eq (pc := 6) (tgt := 18) (jd k_Mod_share 4 rfl) rfl (fun h3 => ?_) (fun h3 => ?_)
  · rw [if_pos h3] at H
    refine j_iconst (pc := 18) (v := 1) (jd k_Mod_share 10 rfl) (by decide) ?_
    refine j_goto (pc := 19) (tgt := 23) (jd k_Mod_share 11 rfl) rfl ?_
    cases H
    exact K8
  · rw [if_neg h3] at H
    refine j_iload_n (pc := 9) 2 (jd k_Mod_share 5 rfl) rfl ?_
    refine j_if_lt (pc := 10) (tgt := 18) (jd k_Mod_share 6 rfl) rfl (fun h4 => ?_) (fun h4 => ?_)
    · rw [if_pos h4] at H
      refine j_iconst (pc := 18) (v := 1) (jd k_Mod_share 10 rfl) (by decide) ?_
      refine j_goto (pc := 19) (tgt := 23) (jd k_Mod_share 11 rfl) rfl ?_
      cases H
      exact K8
    · rw [if_neg h4] at H
      refine j_iload_n (pc := 13) 2 (jd k_Mod_share 7 rfl) rfl ?_
      refine j_iconst (pc := 14) (v := 1) (jd k_Mod_share 8 rfl) (by decide) ?_
      refine j_icmp_le (pc := 15) (tgt := 22) (jd k_Mod_share 9 rfl) rfl (fun h5 => ?_) (fun h5 => ?_)
      · rw [if_pos h5] at H
        refine j_iconst (pc := 22) (v := 0) (jd k_Mod_share 12 rfl) (by decide) ?_
        cases H
        exact K8
      · rw [if_neg h5] at H
        refine j_iconst (pc := 18) (v := 1) (jd k_Mod_share 10 rfl) (by decide) ?_
        refine j_goto (pc := 19) (tgt := 23) (jd k_Mod_share 11 rfl) rfl ?_
        cases H
        exact K8

set_option maxRecDepth 20000 in
theorem c_Mod_board (ad : Nat → Nat) (G : jG) (s : jS) (r : Int32 × jS) (H : f_Mod_board s = some r) : jCon G m_Mod_board y_Mod_board 0 0 0 [.ref (ad 0)] (mkR ad G s) (jEq (some (.int r.1)) (mkR ad G r.2)) := by
  refine jCon.of (by decide +kernel) rfl rfl rfl (Nat.le_of_ble_eq_true rfl) rfl ?_
  have H : (
  jlet (va_up s 0 (fun _ => 0)) fun s1 =>
  some (s1 40 0, s1)) = some r := H
  generalize hP9 : jEq (some (.int r.1)) (mkR ad G r.2) = P
  refine j_aload_n (pc := 0) 0 (jd k_Mod_board 0 rfl) rfl ?_
  refine j_iconst (pc := 1) (v := 0) (jd k_Mod_board 1 rfl) (by decide) ?_
  obtain ⟨s1, e2, H⟩ := olet H
  refine j_put (pc := 2) (fs := flR ad s) (fp_Mod_170_10 _) 0 (jd k_Mod_board 2 rfl) rfl rfl rfl (Nat.le_of_ble_eq_true rfl) ((wpR_0 ad G s _).trans (congrArg (mkR ad G) e2)) ?_
  refine j_aload_n (pc := 5) 0 (jd k_Mod_board 3 rfl) rfl ?_
  refine j_get (pc := 6) (fs := flR ad s1) (v := .int (s1 40 0)) fl_Mod_234_10 0 (jd k_Mod_board 4 rfl) rfl rfl ?_
  cases H
  subst hP9
  exact j_iret (pc := 9) (jd k_Mod_board 5 rfl) rfl rfl ⟨rfl, rfl⟩

set_option maxRecDepth 20000 in
theorem c_Mod_told (ad : Nat → Nat) (G : jG) (p0 : Int32) (s : jS) (r : Int32 × jS) (H : f_Mod_told p0 s = some r) : jCon G m_Mod_told y_Mod_told 0 0 0 [.ref (ad 0), .int p0] (mkR ad G s) (jEq (some (.int r.1)) (mkR ad G r.2)) := by
  refine jCon.of (by decide +kernel) rfl rfl rfl (Nat.le_of_ble_eq_true rfl) rfl ?_
  have H : (
  Option.bind (α := Int32) (
    if p0 < 0 then
      some 1
    else
      if p0 < (s 40 0) then
        some 0
      else
        some 1) fun x3 =>
  jlet (va_up s 0 (fun _ => x3)) fun s6 =>
  Option.bind (α := Int32) (
    if (s6 0 0) ≤ 0 then
      if jin p0 1100 then
      some (s6 41 p0.toNatClampNeg)
      else none
    else
      some 0) fun x10 =>
  some (x10, s6)) = some r := H
  generalize hP9 : jEq (some (.int r.1)) (mkR ad G r.2) = P
  refine j_aload_n (pc := 0) 0 (jd k_Mod_told 0 rfl) rfl ?_
  refine j_iload_n (pc := 1) 1 (jd k_Mod_told 1 rfl) rfl ?_
  obtain ⟨x3, h4, H⟩ := obnd H
  have K5 : J G m_Mod_told 0 0 0 P 18 [(0, .ref (ad 0)), (1, .int p0)] [.int x3, .ref (ad 0)] (mkR ad G s) 0 0 := by
    obtain ⟨s6, e7, H⟩ := olet H
    refine j_put (pc := 18) (fs := flR ad s) (fp_Mod_170_10 _) 0 (jd k_Mod_told 10 rfl) rfl rfl rfl (Nat.le_of_ble_eq_true rfl) ((wpR_0 ad G s _).trans (congrArg (mkR ad G) e7)) ?_
    refine j_aload_n (pc := 21) 0 (jd k_Mod_told 11 rfl) rfl ?_
    refine j_get (pc := 22) (fs := flR ad s6) (v := .int (s6 0 0)) fl_Mod_170_10 0 (jd k_Mod_told 12 rfl) rfl rfl ?_
    obtain ⟨x10, h11, H⟩ := obnd H
    have K12 : J G m_Mod_told 0 0 0 P 38 [] [.int x10] (mkR ad G s6) 0 0 := by
      cases H
      subst hP9
      exact j_iret (pc := 38) (jd k_Mod_told 20 rfl) rfl rfl ⟨rfl, rfl⟩
    have H := h11
    refine j_if_le (pc := 25) (tgt := 32) (jd k_Mod_told 13 rfl) rfl (fun h8 => ?_) (fun h8 => ?_)
    · rw [if_pos h8] at H
      refine j_aload_n (pc := 32) 0 (jd k_Mod_told 16 rfl) rfl ?_
      refine j_get (pc := 33) (fs := flR ad s6) (v := .ref (ad 22)) fl_Mod_73_10 0 (jd k_Mod_told 17 rfl) rfl rfl ?_
      refine j_iload_n (pc := 36) 1 (jd k_Mod_told 18 rfl) rfl ?_
      obtain ⟨h9, H⟩ := ochk H
      refine j_iald (pc := 37) (f := s6 41) 22 (jd k_Mod_told 19 rfl) rfl (jin.vp h9) ?_
      cases H
      exact j_pick [] rfl K12
    · rw [if_neg h8] at H
      refine j_iconst (pc := 28) (v := 0) (jd k_Mod_told 14 rfl) (by decide) ?_
      refine j_goto (pc := 29) (tgt := 38) (jd k_Mod_told 15 rfl) rfl ?_
      cases H
      exact j_pick [] rfl K12
  have H := h4
  refine j_if_lt (pc := 2) (tgt := 13) (jd k_Mod_told 2 rfl) rfl (fun h1 => ?_) (fun h1 => ?_)
  · rw [if_pos h1] at H
    refine j_iconst (pc := 13) (v := 1) (jd k_Mod_told 7 rfl) (by decide) ?_
    refine j_goto (pc := 14) (tgt := 18) (jd k_Mod_told 8 rfl) rfl ?_
    cases H
    exact K5
  · rw [if_neg h1] at H
    refine j_iload_n (pc := 5) 1 (jd k_Mod_told 3 rfl) rfl ?_
    refine j_aload_n (pc := 6) 0 (jd k_Mod_told 4 rfl) rfl ?_
    refine j_get (pc := 7) (fs := flR ad s) (v := .int (s 40 0)) fl_Mod_234_10 0 (jd k_Mod_told 5 rfl) rfl rfl ?_
    refine j_icmp_lt (pc := 10) (tgt := 17) (jd k_Mod_told 6 rfl) rfl (fun h2 => ?_) (fun h2 => ?_)
    · rw [if_pos h2] at H
      refine j_iconst (pc := 17) (v := 0) (jd k_Mod_told 9 rfl) (by decide) ?_
      cases H
      exact K5
    · rw [if_neg h2] at H
      refine j_iconst (pc := 13) (v := 1) (jd k_Mod_told 7 rfl) (by decide) ?_
      refine j_goto (pc := 14) (tgt := 18) (jd k_Mod_told 8 rfl) rfl ?_
      cases H
      exact K5

set_option maxRecDepth 20000 in
theorem c_Mod_key (ad : Nat → Nat) (G : jG) (s : jS) (r : Int32 × jS) (H : f_Mod_key s = some r) : jCon G m_Mod_key y_Mod_key 1 0 0 [.ref (ad 0)] (mkR ad G s) (jEq (some (.int r.1)) (mkR ad G r.2)) := by
  refine jCon.of (by decide +kernel) rfl rfl rfl (Nat.le_of_ble_eq_true rfl) rfl ?_
  have H : (
  jlet (va_up s 0 (fun _ => 0)) fun s1 =>
  Option.bind (α := Int32) (
    if (s1 15 0) = 0 then
      some (-1)
    else
      if (s1 16 0) = 0 then
        some (-1)
      else
        Option.bind (f_Mod_element (s1 39 0) s1) fun x5 =>
        some x5) fun x7 =>
  some (x7, s1)) = some r := H
  generalize hP9 : jEq (some (.int r.1)) (mkR ad G r.2) = P
  refine j_aload_n (pc := 0) 0 (jd k_Mod_key 0 rfl) rfl ?_
  refine j_iconst (pc := 1) (v := 0) (jd k_Mod_key 1 rfl) (by decide) ?_
  obtain ⟨s1, e2, H⟩ := olet H
  refine j_put (pc := 2) (fs := flR ad s) (fp_Mod_170_10 _) 0 (jd k_Mod_key 2 rfl) rfl rfl rfl (Nat.le_of_ble_eq_true rfl) ((wpR_0 ad G s _).trans (congrArg (mkR ad G) e2)) ?_
  refine j_aload_n (pc := 5) 0 (jd k_Mod_key 3 rfl) rfl ?_
  refine j_get (pc := 6) (fs := flR ad s1) (v := .int (s1 15 0)) fl_Mod_203_10 0 (jd k_Mod_key 4 rfl) rfl rfl ?_
  obtain ⟨x7, h8, H⟩ := obnd H
  have K9 : J G m_Mod_key 1 0 0 P 31 [] [.int x7] (mkR ad G s1) 0 0 := by
    cases H
    subst hP9
    exact j_iret (pc := 31) (jd k_Mod_key 15 rfl) rfl rfl ⟨rfl, rfl⟩
  have H := h8
  refine j_if_eq (pc := 9) (tgt := 30) (jd k_Mod_key 5 rfl) rfl (fun h3 => ?_) (fun h3 => ?_)
  · rw [if_pos h3] at H
    refine j_iconst (pc := 30) (v := (-1)) (jd k_Mod_key 14 rfl) (by decide) ?_
    cases H
    exact j_pick [] rfl K9
  · rw [if_neg h3] at H
    refine j_aload_n (pc := 12) 0 (jd k_Mod_key 6 rfl) rfl ?_
    refine j_get (pc := 13) (fs := flR ad s1) (v := .int (s1 16 0)) fl_Mod_225_10 0 (jd k_Mod_key 7 rfl) rfl rfl ?_
    refine j_if_eq (pc := 16) (tgt := 30) (jd k_Mod_key 8 rfl) rfl (fun h4 => ?_) (fun h4 => ?_)
    · rw [if_pos h4] at H
      refine j_iconst (pc := 30) (v := (-1)) (jd k_Mod_key 14 rfl) (by decide) ?_
      cases H
      exact j_pick [] rfl K9
    · rw [if_neg h4] at H
      refine j_aload_n (pc := 19) 0 (jd k_Mod_key 9 rfl) rfl ?_
      refine j_aload_n (pc := 20) 0 (jd k_Mod_key 10 rfl) rfl ?_
      refine j_get (pc := 21) (fs := flR ad s1) (v := .int (s1 39 0)) fl_Mod_326_10 0 (jd k_Mod_key 11 rfl) rfl rfl ?_
      obtain ⟨x5, h6, H⟩ := obnd H
      refine jc_V (pc := 24) (st := []) (c_Mod_element ad G (s1 39 0) s1 _ h6) L0_Mod_element w1356 w1358 w41 0 rfl rfl (jd k_Mod_key 12 rfl) rfl (Nat.le_of_ble_eq_true rfl) (by decide) (Nat.le_refl _) (Nat.le_refl _) rfl rfl ?_
      refine j_goto (pc := 27) (tgt := 31) (jd k_Mod_key 13 rfl) rfl ?_
      cases H
      exact j_pick [] rfl K9

set_option maxRecDepth 20000 in
theorem c_Mod_padded (ad : Nat → Nat) (G : jG) (p0 : Int32) (p1 : Int32) (s : jS) (r : Int32) (H : f_Mod_padded p0 p1 s = some r) : jCon G m_Mod_padded y_Mod_padded 0 0 0 [.ref (ad 0), .int p0, .int p1] (mkR ad G s) (jEq (some (.int r)) (mkR ad G s)) := by
  refine jCon.of (by decide +kernel) rfl rfl rfl (Nat.le_of_ble_eq_true rfl) rfl ?_
  have H : (
  if (s 40 0) ≤ p0 then
    if ¬ p0 = (s 40 0) then
      Option.bind (α := Int32) (
        if (p1 - 4) ≤ p0 then
          some ((jushr ((s 40 0) * 8) (8 * ((p1 - 1) - p0))) &&& 255)
        else
          some 0) fun x4 =>
      some x4
    else
      some 128
  else
    if jin p0 1100 then
    some (s 41 p0.toNatClampNeg)
    else none) = some r := H
  generalize hP9 : jEq (some (.int r)) (mkR ad G s) = P
  refine j_iload_n (pc := 0) 1 (jd k_Mod_padded 0 rfl) rfl ?_
  refine j_aload_n (pc := 1) 0 (jd k_Mod_padded 1 rfl) rfl ?_
  refine j_get (pc := 2) (fs := flR ad s) (v := .int (s 40 0)) fl_Mod_234_10 0 (jd k_Mod_padded 2 rfl) rfl rfl ?_
  refine j_icmp_ge (pc := 5) (tgt := 15) (jd k_Mod_padded 3 rfl) rfl (fun h1 => ?_) (fun h1 => ?_)
  · rw [if_pos h1] at H
    refine j_iload_n (pc := 15) 1 (jd k_Mod_padded 9 rfl) rfl ?_
    refine j_aload_n (pc := 16) 0 (jd k_Mod_padded 10 rfl) rfl ?_
    refine j_get (pc := 17) (fs := flR ad s) (v := .int (s 40 0)) fl_Mod_234_10 0 (jd k_Mod_padded 11 rfl) rfl rfl ?_
    refine j_icmp_ne (pc := 20) (tgt := 27) (jd k_Mod_padded 12 rfl) rfl (fun h2 => ?_) (fun h2 => ?_)
    · rw [if_pos h2] at H
      refine j_iload_n (pc := 27) 1 (jd k_Mod_padded 15 rfl) rfl ?_
      refine j_iload_n (pc := 28) 2 (jd k_Mod_padded 16 rfl) rfl ?_
      refine j_iconst (pc := 29) (v := 4) (jd k_Mod_padded 17 rfl) (by decide) ?_
      refine j_isub (pc := 30) (jd k_Mod_padded 18 rfl) ?_
      obtain ⟨x4, h5, H⟩ := obnd H
      have K6 : J G m_Mod_padded 0 0 0 P 58 [] [.int x4] (mkR ad G s) 0 0 := by
        cases H
        subst hP9
        exact j_iret (pc := 58) (jd k_Mod_padded 36 rfl) rfl rfl ⟨rfl, rfl⟩
      have H := h5
      refine j_icmp_ge (pc := 31) (tgt := 38) (jd k_Mod_padded 19 rfl) rfl (fun h3 => ?_) (fun h3 => ?_)
      · rw [if_pos h3] at H
        refine j_aload_n (pc := 38) 0 (jd k_Mod_padded 22 rfl) rfl ?_
        refine j_get (pc := 39) (fs := flR ad s) (v := .int (s 40 0)) fl_Mod_234_10 0 (jd k_Mod_padded 23 rfl) rfl rfl ?_
        refine j_bipush (pc := 42) (v := 8) (jd k_Mod_padded 24 rfl) (by decide) ?_
        refine j_imul (pc := 44) (jd k_Mod_padded 25 rfl) ?_
        refine j_bipush (pc := 45) (v := 8) (jd k_Mod_padded 26 rfl) (by decide) ?_
        refine j_iload_n (pc := 47) 2 (jd k_Mod_padded 27 rfl) rfl ?_
        refine j_iconst (pc := 48) (v := 1) (jd k_Mod_padded 28 rfl) (by decide) ?_
        refine j_isub (pc := 49) (jd k_Mod_padded 29 rfl) ?_
        refine j_iload_n (pc := 50) 1 (jd k_Mod_padded 30 rfl) rfl ?_
        refine j_isub (pc := 51) (jd k_Mod_padded 31 rfl) ?_
        refine j_imul (pc := 52) (jd k_Mod_padded 32 rfl) ?_
        refine j_iushr (pc := 53) (jd k_Mod_padded 33 rfl) ?_
        refine j_sipush (pc := 54) (v := 255) (jd k_Mod_padded 34 rfl) (by decide) ?_
        refine j_iand (pc := 57) (jd k_Mod_padded 35 rfl) ?_
        cases H
        exact j_pick [] rfl K6
      · rw [if_neg h3] at H
        refine j_iconst (pc := 34) (v := 0) (jd k_Mod_padded 20 rfl) (by decide) ?_
        refine j_goto (pc := 35) (tgt := 58) (jd k_Mod_padded 21 rfl) rfl ?_
        cases H
        exact j_pick [] rfl K6
    · rw [if_neg (not_not_intro h2)] at H
      refine j_sipush (pc := 23) (v := 128) (jd k_Mod_padded 13 rfl) (by decide) ?_
      cases H
      subst hP9
      exact j_iret (pc := 26) (jd k_Mod_padded 14 rfl) rfl rfl ⟨rfl, rfl⟩
  · rw [if_neg h1] at H
    refine j_aload_n (pc := 8) 0 (jd k_Mod_padded 4 rfl) rfl ?_
    refine j_get (pc := 9) (fs := flR ad s) (v := .ref (ad 22)) fl_Mod_73_10 0 (jd k_Mod_padded 5 rfl) rfl rfl ?_
    refine j_iload_n (pc := 12) 1 (jd k_Mod_padded 6 rfl) rfl ?_
    obtain ⟨h7, H⟩ := ochk H
    refine j_iald (pc := 13) (f := s 41) 22 (jd k_Mod_padded 7 rfl) rfl (jin.vp h7) ?_
    cases H
    subst hP9
    exact j_iret (pc := 14) (jd k_Mod_padded 8 rfl) rfl rfl ⟨rfl, rfl⟩

set_option maxRecDepth 20000 in
theorem c_Mod_right (G : jG) (ws : va_W) (p0 : Int32) (p1 : Int32) (r : Int32) (H : f_Mod_right p0 p1 = some r) : jCon G m_Mod_right y_Mod_right 0 0 0 [.int p0, .int p1] ws (jEq (some (.int r)) ws) := by
  refine jCon.of (by decide +kernel) rfl rfl rfl (Nat.le_of_ble_eq_true rfl) rfl ?_
  have H : (
  some ((jushr p0 p1) ||| (p0 <<< ((32 - p1) &&& 31)))) = some r := H
  generalize hP9 : jEq (some (.int r)) ws = P
  refine j_iload_n (pc := 0) 0 (jd k_Mod_right 0 rfl) rfl ?_
  refine j_iload_n (pc := 1) 1 (jd k_Mod_right 1 rfl) rfl ?_
  refine j_iushr (pc := 2) (jd k_Mod_right 2 rfl) ?_
  refine j_iload_n (pc := 3) 0 (jd k_Mod_right 3 rfl) rfl ?_
  refine j_bipush (pc := 4) (v := 32) (jd k_Mod_right 4 rfl) (by decide) ?_
  refine j_iload_n (pc := 6) 1 (jd k_Mod_right 5 rfl) rfl ?_
  refine j_isub (pc := 7) (jd k_Mod_right 6 rfl) ?_
  refine j_ishl (pc := 8) (jd k_Mod_right 7 rfl) ?_
  refine j_ior (pc := 9) (jd k_Mod_right 8 rfl) ?_
  cases H
  subst hP9
  exact j_iret (pc := 10) (jd k_Mod_right 9 rfl) rfl rfl ⟨rfl, rfl⟩

set_option maxRecDepth 20000 in
theorem lp_Mod_mix_154 {ad : Nat → Nat} {G : jG} {P : jR → va_W → Prop} (x21 : Int32) (x32 : Int32) : ∀ (n : Nat) (x33 : Int32) (s34 : jS) (r : Int32 × jS), L_Mod_mix_154 n x33 s34 = some r → J G m_Mod_mix 1 0 0 P 181 [(0, .ref (ad 0)), (4, .int x21), (5, .int x32), (6, .int r.1)] [] (mkR ad G r.2) 0 0 → J G m_Mod_mix 1 0 0 P 154 [(0, .ref (ad 0)), (4, .int x21), (5, .int x32), (6, .int x33)] [] (mkR ad G s34) 0 0 := by
  intro n
  induction n with
  | zero =>
    intro x33 s34 r H
    cases (show none = some r from H)
  | succ n ih =>
    intro x33 s34 r H kx
    have H : (
    if x33 ≤ 0 then
      some (x33, s34)
    else
      if jin (x33 - 1) 8 then
      if jin x33 8 then
      jlet (va_up s34 47 (upd (s34 47) x33.toNatClampNeg (s34 47 (x33 - 1).toNatClampNeg))) fun s37 =>
      jlet (x33 + (-1)) fun x40 =>
      L_Mod_mix_154 n x40 s37
      else none
      else none) = some r := H
    refine j_iload (pc := 154) 3 (jd k_Mod_mix 101 rfl) rfl ?_
    refine j_if_le (pc := 156) (tgt := 181) (jd k_Mod_mix 102 rfl) rfl (fun h35 => ?_) (fun h35 => ?_)
    · rw [if_pos h35] at H
      cases H
      exact kx
    · rw [if_neg h35] at H
      refine j_aload_n (pc := 159) 0 (jd k_Mod_mix 103 rfl) rfl ?_
      refine j_get (pc := 160) (fs := flR ad s34) (v := .ref (ad 28)) fl_Mod_163_10 0 (jd k_Mod_mix 104 rfl) rfl rfl ?_
      refine j_iload (pc := 163) 3 (jd k_Mod_mix 105 rfl) rfl ?_
      refine j_aload_n (pc := 165) 0 (jd k_Mod_mix 106 rfl) rfl ?_
      refine j_get (pc := 166) (fs := flR ad s34) (v := .ref (ad 28)) fl_Mod_163_10 0 (jd k_Mod_mix 107 rfl) rfl rfl ?_
      refine j_iload (pc := 169) 3 (jd k_Mod_mix 108 rfl) rfl ?_
      refine j_iconst (pc := 171) (v := 1) (jd k_Mod_mix 109 rfl) (by decide) ?_
      refine j_isub (pc := 172) (jd k_Mod_mix 110 rfl) ?_
      obtain ⟨h36, H⟩ := ochk H
      refine j_iald (pc := 173) (f := s34 47) 28 (jd k_Mod_mix 111 rfl) rfl (jin.vp h36) ?_
      obtain ⟨h39, H⟩ := ochk H
      obtain ⟨s37, e38, H⟩ := olet H
      refine j_iast (pc := 174) (f := s34 47) 28 (jd k_Mod_mix 112 rfl) rfl (jin.vp h39) ((waR_47 ad G s34 _).trans (congrArg (mkR ad G) e38)) ?_
      obtain ⟨x40, e41, H⟩ := olet H
      refine j_iinc (pc := 175) (lv' := [(0, .ref (ad 0)), (4, .int x21), (5, .int x32), (6, .int x40)]) 3 (jd k_Mod_mix 113 rfl) rfl e41 rfl (Nat.le_of_ble_eq_true rfl) rfl ?_
      refine j_goto (pc := 178) (tgt := 154) (jd k_Mod_mix 114 rfl) rfl ?_
      exact ih x40 s37 _ H kx

set_option maxRecDepth 20000 in
theorem c_Mod_mix (ad : Nat → Nat) (G : jG) (p0 : Int32) (s : jS) (r : jS) (H : f_Mod_mix p0 s = some r) : jCon G m_Mod_mix y_Mod_mix 1 0 0 [.ref (ad 0), .int p0] (mkR ad G s) (jEq none (mkR ad G r)) := by
  refine jCon.of (by decide +kernel) rfl rfl rfl (Nat.le_of_ble_eq_true rfl) rfl ?_
  have H : (
  if jin 4 8 then
  jlet (s 47 (4 : Int32).toNatClampNeg) fun x2 =>
  if jin 0 8 then
  jlet (s 47 (0 : Int32).toNatClampNeg) fun x4 =>
  if jin 7 8 then
  Option.bind (f_Mod_right x2 6) fun x6 =>
  Option.bind (f_Mod_right x2 11) fun x8 =>
  Option.bind (f_Mod_right x2 25) fun x10 =>
  if jin 5 8 then
  if jin 6 8 then
  Option.bind (α := Int32) (
    if 32 ≤ p0 then
      if jin (p0 - 32) 32 then
      some (s 43 (p0 - 32).toNatClampNeg)
      else none
    else
      if jin p0 32 then
      some (s 42 p0.toNatClampNeg)
      else none) fun x17 =>
  if jin p0 64 then
  jlet (((((s 47 (7 : Int32).toNatClampNeg) + ((x6 ^^^ x8) ^^^ x10)) + ((x2 &&& (s 47 (5 : Int32).toNatClampNeg)) ^^^ ((x2 ^^^ (-1)) &&& (s 47 (6 : Int32).toNatClampNeg)))) + x17) + (s 46 p0.toNatClampNeg)) fun x21 =>
  Option.bind (f_Mod_right x4 2) fun x22 =>
  Option.bind (f_Mod_right x4 13) fun x24 =>
  Option.bind (f_Mod_right x4 22) fun x26 =>
  if jin 1 8 then
  if jin 2 8 then
  if jin 1 8 then
  if jin 2 8 then
  jlet (((x22 ^^^ x24) ^^^ x26) + (((x4 &&& (s 47 (1 : Int32).toNatClampNeg)) ^^^ (x4 &&& (s 47 (2 : Int32).toNatClampNeg))) ^^^ ((s 47 (1 : Int32).toNatClampNeg) &&& (s 47 (2 : Int32).toNatClampNeg)))) fun x32 =>
  Option.bind (L_Mod_mix_154 jF 7 s) fun (x42, s43) =>
  if jin 4 8 then
  if jin 4 8 then
  jlet (va_up s43 47 (upd (s43 47) (4 : Int32).toNatClampNeg ((s43 47 (4 : Int32).toNatClampNeg) + x21))) fun s46 =>
  if jin 0 8 then
  jlet (va_up s46 47 (upd (s46 47) (0 : Int32).toNatClampNeg (x21 + x32))) fun s49 =>
  some s49
  else none
  else none
  else none
  else none
  else none
  else none
  else none
  else none
  else none
  else none
  else none
  else none
  else none) = some r := H
  generalize hP9 : jEq none (mkR ad G r) = P
  refine j_aload_n (pc := 0) 0 (jd k_Mod_mix 0 rfl) rfl ?_
  refine j_get (pc := 1) (fs := flR ad s) (v := .ref (ad 28)) fl_Mod_163_10 0 (jd k_Mod_mix 1 rfl) rfl rfl ?_
  refine j_iconst (pc := 4) (v := 4) (jd k_Mod_mix 2 rfl) (by decide) ?_
  obtain ⟨h1, H⟩ := ochk H
  refine j_iald (pc := 5) (f := s 47) 28 (jd k_Mod_mix 3 rfl) rfl (jin.vp h1) ?_
  obtain ⟨x2, e55, H⟩ := olet H
  refine j_topi e55 ?_
  refine j_istore_n (pc := 6) (lv' := [(0, .ref (ad 0)), (1, .int p0), (2, .int x2)]) (jd k_Mod_mix 4 rfl) rfl (Nat.le_of_ble_eq_true rfl) rfl ?_
  refine j_aload_n (pc := 7) 0 (jd k_Mod_mix 5 rfl) rfl ?_
  refine j_get (pc := 8) (fs := flR ad s) (v := .ref (ad 28)) fl_Mod_163_10 0 (jd k_Mod_mix 6 rfl) rfl rfl ?_
  refine j_iconst (pc := 11) (v := 0) (jd k_Mod_mix 7 rfl) (by decide) ?_
  obtain ⟨h3, H⟩ := ochk H
  refine j_iald (pc := 12) (f := s 47) 28 (jd k_Mod_mix 8 rfl) rfl (jin.vp h3) ?_
  obtain ⟨x4, e54, H⟩ := olet H
  refine j_topi e54 ?_
  refine j_istore_n (pc := 13) (lv' := [(0, .ref (ad 0)), (1, .int p0), (2, .int x2), (3, .int x4)]) (jd k_Mod_mix 9 rfl) rfl (Nat.le_of_ble_eq_true rfl) rfl ?_
  refine j_aload_n (pc := 14) 0 (jd k_Mod_mix 10 rfl) rfl ?_
  refine j_get (pc := 15) (fs := flR ad s) (v := .ref (ad 28)) fl_Mod_163_10 0 (jd k_Mod_mix 11 rfl) rfl rfl ?_
  refine j_bipush (pc := 18) (v := 7) (jd k_Mod_mix 12 rfl) (by decide) ?_
  obtain ⟨h5, H⟩ := ochk H
  refine j_iald (pc := 20) (f := s 47) 28 (jd k_Mod_mix 13 rfl) rfl (jin.vp h5) ?_
  refine j_iload_n (pc := 21) 2 (jd k_Mod_mix 14 rfl) rfl ?_
  refine j_bipush (pc := 22) (v := 6) (jd k_Mod_mix 15 rfl) (by decide) ?_
  obtain ⟨x6, h7, H⟩ := obnd H
  refine jc_S (pc := 24) (st := [.int (s 47 (7 : Int32).toNatClampNeg)]) (c_Mod_right G _ x2 6 _ h7) L0_Mod_right w1478 w1479 (jd k_Mod_mix 16 rfl) rfl (Nat.le_of_ble_eq_true rfl) (by decide) (Nat.le_refl _) (Nat.le_refl _) rfl rfl ?_
  refine j_iload_n (pc := 27) 2 (jd k_Mod_mix 17 rfl) rfl ?_
  refine j_bipush (pc := 28) (v := 11) (jd k_Mod_mix 18 rfl) (by decide) ?_
  obtain ⟨x8, h9, H⟩ := obnd H
  refine jc_S (pc := 30) (st := [.int x6, .int (s 47 (7 : Int32).toNatClampNeg)]) (c_Mod_right G _ x2 11 _ h9) L0_Mod_right w1478 w1479 (jd k_Mod_mix 19 rfl) rfl (Nat.le_of_ble_eq_true rfl) (by decide) (Nat.le_refl _) (Nat.le_refl _) rfl rfl ?_
  refine j_ixor (pc := 33) (jd k_Mod_mix 20 rfl) ?_
  refine j_iload_n (pc := 34) 2 (jd k_Mod_mix 21 rfl) rfl ?_
  refine j_bipush (pc := 35) (v := 25) (jd k_Mod_mix 22 rfl) (by decide) ?_
  obtain ⟨x10, h11, H⟩ := obnd H
  refine jc_S (pc := 37) (st := [.int (x6 ^^^ x8), .int (s 47 (7 : Int32).toNatClampNeg)]) (c_Mod_right G _ x2 25 _ h11) L0_Mod_right w1478 w1479 (jd k_Mod_mix 23 rfl) rfl (Nat.le_of_ble_eq_true rfl) (by decide) (Nat.le_refl _) (Nat.le_refl _) rfl rfl ?_
  refine j_ixor (pc := 40) (jd k_Mod_mix 24 rfl) ?_
  refine j_iadd (pc := 41) (jd k_Mod_mix 25 rfl) ?_
  refine j_iload_n (pc := 42) 2 (jd k_Mod_mix 26 rfl) rfl ?_
  refine j_aload_n (pc := 43) 0 (jd k_Mod_mix 27 rfl) rfl ?_
  refine j_get (pc := 44) (fs := flR ad s) (v := .ref (ad 28)) fl_Mod_163_10 0 (jd k_Mod_mix 28 rfl) rfl rfl ?_
  refine j_iconst (pc := 47) (v := 5) (jd k_Mod_mix 29 rfl) (by decide) ?_
  obtain ⟨h12, H⟩ := ochk H
  refine j_iald (pc := 48) (f := s 47) 28 (jd k_Mod_mix 30 rfl) rfl (jin.vp h12) ?_
  refine j_iand (pc := 49) (jd k_Mod_mix 31 rfl) ?_
  refine j_iload_n (pc := 50) 2 (jd k_Mod_mix 32 rfl) rfl ?_
  refine j_iconst (pc := 51) (v := (-1)) (jd k_Mod_mix 33 rfl) (by decide) ?_
  refine j_ixor (pc := 52) (jd k_Mod_mix 34 rfl) ?_
  refine j_aload_n (pc := 53) 0 (jd k_Mod_mix 35 rfl) rfl ?_
  refine j_get (pc := 54) (fs := flR ad s) (v := .ref (ad 28)) fl_Mod_163_10 0 (jd k_Mod_mix 36 rfl) rfl rfl ?_
  refine j_bipush (pc := 57) (v := 6) (jd k_Mod_mix 37 rfl) (by decide) ?_
  obtain ⟨h13, H⟩ := ochk H
  refine j_iald (pc := 59) (f := s 47) 28 (jd k_Mod_mix 38 rfl) rfl (jin.vp h13) ?_
  refine j_iand (pc := 60) (jd k_Mod_mix 39 rfl) ?_
  refine j_ixor (pc := 61) (jd k_Mod_mix 40 rfl) ?_
  refine j_iadd (pc := 62) (jd k_Mod_mix 41 rfl) ?_
  refine j_iload_n (pc := 63) 1 (jd k_Mod_mix 42 rfl) rfl ?_
  refine j_bipush (pc := 64) (v := 32) (jd k_Mod_mix 43 rfl) (by decide) ?_
  obtain ⟨x17, h18, H⟩ := obnd H
  have K19 : J G m_Mod_mix 1 0 0 P 87 [(0, .ref (ad 0)), (1, .int p0), (3, .int x4)] [.int x17, .int (((s 47 (7 : Int32).toNatClampNeg) + ((x6 ^^^ x8) ^^^ x10)) + ((x2 &&& (s 47 (5 : Int32).toNatClampNeg)) ^^^ ((x2 ^^^ (-1)) &&& (s 47 (6 : Int32).toNatClampNeg))))] (mkR ad G s) 0 0 := by
    refine j_iadd (pc := 87) (jd k_Mod_mix 56 rfl) ?_
    refine j_aload_n (pc := 88) 0 (jd k_Mod_mix 57 rfl) rfl ?_
    refine j_get (pc := 89) (fs := flR ad s) (v := .ref (ad 27)) fl_Mod_160_10 0 (jd k_Mod_mix 58 rfl) rfl rfl ?_
    refine j_iload_n (pc := 92) 1 (jd k_Mod_mix 59 rfl) rfl ?_
    obtain ⟨h20, H⟩ := ochk H
    refine j_iald (pc := 93) (f := s 46) 27 (jd k_Mod_mix 60 rfl) rfl (jin.vp h20) ?_
    refine j_iadd (pc := 94) (jd k_Mod_mix 61 rfl) ?_
    obtain ⟨x21, e53, H⟩ := olet H
    refine j_topi e53 ?_
    refine j_istore (pc := 95) (lv' := [(0, .ref (ad 0)), (1, .int p0), (3, .int x4), (4, .int x21)]) (jd k_Mod_mix 62 rfl) rfl (Nat.le_of_ble_eq_true rfl) rfl ?_
    refine j_iload_n (pc := 97) 2 (jd k_Mod_mix 63 rfl) rfl ?_
    refine j_iconst (pc := 98) (v := 2) (jd k_Mod_mix 64 rfl) (by decide) ?_
    obtain ⟨x22, h23, H⟩ := obnd H
    refine jc_S (pc := 99) (st := []) (c_Mod_right G _ x4 2 _ h23) L0_Mod_right w1478 w1479 (jd k_Mod_mix 65 rfl) rfl (Nat.le_of_ble_eq_true rfl) (by decide) (Nat.le_refl _) (Nat.le_refl _) rfl rfl ?_
    refine j_iload_n (pc := 102) 2 (jd k_Mod_mix 66 rfl) rfl ?_
    refine j_bipush (pc := 103) (v := 13) (jd k_Mod_mix 67 rfl) (by decide) ?_
    obtain ⟨x24, h25, H⟩ := obnd H
    refine jc_S (pc := 105) (st := [.int x22]) (c_Mod_right G _ x4 13 _ h25) L0_Mod_right w1478 w1479 (jd k_Mod_mix 68 rfl) rfl (Nat.le_of_ble_eq_true rfl) (by decide) (Nat.le_refl _) (Nat.le_refl _) rfl rfl ?_
    refine j_ixor (pc := 108) (jd k_Mod_mix 69 rfl) ?_
    refine j_iload_n (pc := 109) 2 (jd k_Mod_mix 70 rfl) rfl ?_
    refine j_bipush (pc := 110) (v := 22) (jd k_Mod_mix 71 rfl) (by decide) ?_
    obtain ⟨x26, h27, H⟩ := obnd H
    refine jc_S (pc := 112) (st := [.int (x22 ^^^ x24)]) (c_Mod_right G _ x4 22 _ h27) L0_Mod_right w1478 w1479 (jd k_Mod_mix 72 rfl) rfl (Nat.le_of_ble_eq_true rfl) (by decide) (Nat.le_refl _) (Nat.le_refl _) rfl rfl ?_
    refine j_ixor (pc := 115) (jd k_Mod_mix 73 rfl) ?_
    refine j_iload_n (pc := 116) 2 (jd k_Mod_mix 74 rfl) rfl ?_
    refine j_aload_n (pc := 117) 0 (jd k_Mod_mix 75 rfl) rfl ?_
    refine j_get (pc := 118) (fs := flR ad s) (v := .ref (ad 28)) fl_Mod_163_10 0 (jd k_Mod_mix 76 rfl) rfl rfl ?_
    refine j_iconst (pc := 121) (v := 1) (jd k_Mod_mix 77 rfl) (by decide) ?_
    obtain ⟨h28, H⟩ := ochk H
    refine j_iald (pc := 122) (f := s 47) 28 (jd k_Mod_mix 78 rfl) rfl (jin.vp h28) ?_
    refine j_iand (pc := 123) (jd k_Mod_mix 79 rfl) ?_
    refine j_iload_n (pc := 124) 2 (jd k_Mod_mix 80 rfl) rfl ?_
    refine j_aload_n (pc := 125) 0 (jd k_Mod_mix 81 rfl) rfl ?_
    refine j_get (pc := 126) (fs := flR ad s) (v := .ref (ad 28)) fl_Mod_163_10 0 (jd k_Mod_mix 82 rfl) rfl rfl ?_
    refine j_iconst (pc := 129) (v := 2) (jd k_Mod_mix 83 rfl) (by decide) ?_
    obtain ⟨h29, H⟩ := ochk H
    refine j_iald (pc := 130) (f := s 47) 28 (jd k_Mod_mix 84 rfl) rfl (jin.vp h29) ?_
    refine j_iand (pc := 131) (jd k_Mod_mix 85 rfl) ?_
    refine j_ixor (pc := 132) (jd k_Mod_mix 86 rfl) ?_
    refine j_aload_n (pc := 133) 0 (jd k_Mod_mix 87 rfl) rfl ?_
    refine j_get (pc := 134) (fs := flR ad s) (v := .ref (ad 28)) fl_Mod_163_10 0 (jd k_Mod_mix 88 rfl) rfl rfl ?_
    refine j_iconst (pc := 137) (v := 1) (jd k_Mod_mix 89 rfl) (by decide) ?_
    obtain ⟨h30, H⟩ := ochk H
    refine j_iald (pc := 138) (f := s 47) 28 (jd k_Mod_mix 90 rfl) rfl (jin.vp h30) ?_
    refine j_aload_n (pc := 139) 0 (jd k_Mod_mix 91 rfl) rfl ?_
    refine j_get (pc := 140) (fs := flR ad s) (v := .ref (ad 28)) fl_Mod_163_10 0 (jd k_Mod_mix 92 rfl) rfl rfl ?_
    refine j_iconst (pc := 143) (v := 2) (jd k_Mod_mix 93 rfl) (by decide) ?_
    obtain ⟨h31, H⟩ := ochk H
    refine j_iald (pc := 144) (f := s 47) 28 (jd k_Mod_mix 94 rfl) rfl (jin.vp h31) ?_
    refine j_iand (pc := 145) (jd k_Mod_mix 95 rfl) ?_
    refine j_ixor (pc := 146) (jd k_Mod_mix 96 rfl) ?_
    refine j_iadd (pc := 147) (jd k_Mod_mix 97 rfl) ?_
    obtain ⟨x32, e52, H⟩ := olet H
    refine j_topi e52 ?_
    refine j_istore (pc := 148) (lv' := [(0, .ref (ad 0)), (1, .int p0), (3, .int x4), (4, .int x21), (5, .int x32)]) (jd k_Mod_mix 98 rfl) rfl (Nat.le_of_ble_eq_true rfl) rfl ?_
    refine j_bipush (pc := 150) (v := 7) (jd k_Mod_mix 99 rfl) (by decide) ?_
    refine j_istore (pc := 152) (lv' := [(0, .ref (ad 0)), (1, .int p0), (3, .int x4), (4, .int x21), (5, .int x32), (6, .int 7)]) (jd k_Mod_mix 100 rfl) rfl (Nat.le_of_ble_eq_true rfl) rfl ?_
    obtain ⟨⟨x42, s43⟩, h44, H⟩ := obnd H
    try dsimp only at H
    refine j_pick (lv' := [(0, .ref (ad 0)), (4, .int x21), (5, .int x32), (6, .int 7)]) [0, 3, 4, 5] rfl ?_
    refine lp_Mod_mix_154 x21 x32 jF 7 s _ h44 ?_
    refine j_pick (lv' := [(0, .ref (ad 0)), (4, .int x21), (5, .int x32)]) [0, 1, 2] rfl ?_
    refine j_aload_n (pc := 181) 0 (jd k_Mod_mix 115 rfl) rfl ?_
    refine j_get (pc := 182) (fs := flR ad s43) (v := .ref (ad 28)) fl_Mod_163_10 0 (jd k_Mod_mix 116 rfl) rfl rfl ?_
    refine j_iconst (pc := 185) (v := 4) (jd k_Mod_mix 117 rfl) (by decide) ?_
    refine j_dup2 (pc := 186) (jd k_Mod_mix 118 rfl) rfl rfl ?_
    obtain ⟨h45, H⟩ := ochk H
    refine j_iald (pc := 187) (f := s43 47) 28 (jd k_Mod_mix 119 rfl) rfl (jin.vp h45) ?_
    refine j_iload (pc := 188) 1 (jd k_Mod_mix 120 rfl) rfl ?_
    refine j_iadd (pc := 190) (jd k_Mod_mix 121 rfl) ?_
    obtain ⟨h48, H⟩ := ochk H
    obtain ⟨s46, e47, H⟩ := olet H
    refine j_iast (pc := 191) (f := s43 47) 28 (jd k_Mod_mix 122 rfl) rfl (jin.vp h48) ((waR_47 ad G s43 _).trans (congrArg (mkR ad G) e47)) ?_
    refine j_aload_n (pc := 192) 0 (jd k_Mod_mix 123 rfl) rfl ?_
    refine j_get (pc := 193) (fs := flR ad s46) (v := .ref (ad 28)) fl_Mod_163_10 0 (jd k_Mod_mix 124 rfl) rfl rfl ?_
    refine j_iconst (pc := 196) (v := 0) (jd k_Mod_mix 125 rfl) (by decide) ?_
    refine j_iload (pc := 197) 1 (jd k_Mod_mix 126 rfl) rfl ?_
    refine j_iload (pc := 199) 2 (jd k_Mod_mix 127 rfl) rfl ?_
    refine j_iadd (pc := 201) (jd k_Mod_mix 128 rfl) ?_
    obtain ⟨h51, H⟩ := ochk H
    obtain ⟨s49, e50, H⟩ := olet H
    refine j_iast (pc := 202) (f := s46 47) 28 (jd k_Mod_mix 129 rfl) rfl (jin.vp h51) ((waR_47 ad G s46 _).trans (congrArg (mkR ad G) e50)) ?_
    cases H
    subst hP9
    exact j_vret (pc := 203) (jd k_Mod_mix 130 rfl) rfl ⟨rfl, rfl⟩
  have H := h18
  refine j_icmp_ge (pc := 66) (tgt := 78) (jd k_Mod_mix 44 rfl) rfl (fun h14 => ?_) (fun h14 => ?_)
  · rw [if_pos h14] at H
    refine j_aload_n (pc := 78) 0 (jd k_Mod_mix 50 rfl) rfl ?_
    refine j_get (pc := 79) (fs := flR ad s) (v := .ref (ad 24)) fl_Mod_143_10 0 (jd k_Mod_mix 51 rfl) rfl rfl ?_
    refine j_iload_n (pc := 82) 1 (jd k_Mod_mix 52 rfl) rfl ?_
    refine j_bipush (pc := 83) (v := 32) (jd k_Mod_mix 53 rfl) (by decide) ?_
    refine j_isub (pc := 85) (jd k_Mod_mix 54 rfl) ?_
    obtain ⟨h15, H⟩ := ochk H
    refine j_iald (pc := 86) (f := s 43) 24 (jd k_Mod_mix 55 rfl) rfl (jin.vp h15) ?_
    cases H
    exact j_pick [0, 1, 3] rfl K19
  · rw [if_neg h14] at H
    refine j_aload_n (pc := 69) 0 (jd k_Mod_mix 45 rfl) rfl ?_
    refine j_get (pc := 70) (fs := flR ad s) (v := .ref (ad 23)) fl_Mod_108_10 0 (jd k_Mod_mix 46 rfl) rfl rfl ?_
    refine j_iload_n (pc := 73) 1 (jd k_Mod_mix 47 rfl) rfl ?_
    obtain ⟨h16, H⟩ := ochk H
    refine j_iald (pc := 74) (f := s 42) 23 (jd k_Mod_mix 48 rfl) rfl (jin.vp h16) ?_
    refine j_goto (pc := 75) (tgt := 87) (jd k_Mod_mix 49 rfl) rfl ?_
    cases H
    exact j_pick [0, 1, 3] rfl K19

set_option maxRecDepth 20000 in
theorem lp_Mod_block_224 {ad : Nat → Nat} {G : jG} {P : jR → va_W → Prop} : ∀ (n : Nat) (x71 : Int32) (s72 : jS) (r : Int32 × jS), L_Mod_block_224 n x71 s72 = some r → J G m_Mod_block 2 0 0 P 251 [(0, .ref (ad 0)), (3, .int r.1)] [] (mkR ad G r.2) 0 0 → J G m_Mod_block 2 0 0 P 224 [(0, .ref (ad 0)), (3, .int x71)] [] (mkR ad G s72) 0 0 := by
  intro n
  induction n with
  | zero =>
    intro x71 s72 r H
    cases (show none = some r from H)
  | succ n ih =>
    intro x71 s72 r H kx
    have H : (
    if 8 ≤ x71 then
      some (x71, s72)
    else
      if jin x71 8 then
      if jin x71 8 then
      if jin x71 8 then
      jlet (va_up s72 44 (upd (s72 44) x71.toNatClampNeg ((s72 44 x71.toNatClampNeg) + (s72 47 x71.toNatClampNeg)))) fun s76 =>
      jlet (x71 + 1) fun x79 =>
      L_Mod_block_224 n x79 s76
      else none
      else none
      else none) = some r := H
    refine j_iload_n (pc := 224) 1 (jd k_Mod_block 137 rfl) rfl ?_
    refine j_bipush (pc := 225) (v := 8) (jd k_Mod_block 138 rfl) (by decide) ?_
    refine j_icmp_ge (pc := 227) (tgt := 251) (jd k_Mod_block 139 rfl) rfl (fun h73 => ?_) (fun h73 => ?_)
    · rw [if_pos h73] at H
      cases H
      exact kx
    · rw [if_neg h73] at H
      refine j_aload_n (pc := 230) 0 (jd k_Mod_block 140 rfl) rfl ?_
      refine j_get (pc := 231) (fs := flR ad s72) (v := .ref (ad 25)) fl_Mod_146_10 0 (jd k_Mod_block 141 rfl) rfl rfl ?_
      refine j_iload_n (pc := 234) 1 (jd k_Mod_block 142 rfl) rfl ?_
      refine j_dup2 (pc := 235) (jd k_Mod_block 143 rfl) rfl rfl ?_
      obtain ⟨h74, H⟩ := ochk H
      refine j_iald (pc := 236) (f := s72 44) 25 (jd k_Mod_block 144 rfl) rfl (jin.vp h74) ?_
      refine j_aload_n (pc := 237) 0 (jd k_Mod_block 145 rfl) rfl ?_
      refine j_get (pc := 238) (fs := flR ad s72) (v := .ref (ad 28)) fl_Mod_163_10 0 (jd k_Mod_block 146 rfl) rfl rfl ?_
      refine j_iload_n (pc := 241) 1 (jd k_Mod_block 147 rfl) rfl ?_
      obtain ⟨h75, H⟩ := ochk H
      refine j_iald (pc := 242) (f := s72 47) 28 (jd k_Mod_block 148 rfl) rfl (jin.vp h75) ?_
      refine j_iadd (pc := 243) (jd k_Mod_block 149 rfl) ?_
      obtain ⟨h78, H⟩ := ochk H
      obtain ⟨s76, e77, H⟩ := olet H
      refine j_iast (pc := 244) (f := s72 44) 25 (jd k_Mod_block 150 rfl) rfl (jin.vp h78) ((waR_44 ad G s72 _).trans (congrArg (mkR ad G) e77)) ?_
      obtain ⟨x79, e80, H⟩ := olet H
      refine j_iinc (pc := 245) (lv' := [(0, .ref (ad 0)), (3, .int x79)]) 1 (jd k_Mod_block 151 rfl) rfl e80 rfl (Nat.le_of_ble_eq_true rfl) rfl ?_
      refine j_goto (pc := 248) (tgt := 224) (jd k_Mod_block 152 rfl) rfl ?_
      exact ih x79 s76 _ H kx

set_option maxRecDepth 20000 in
theorem lp_Mod_block_205 {ad : Nat → Nat} {G : jG} {P : jR → va_W → Prop} : ∀ (n : Nat) (x61 : Int32) (s62 : jS) (r : Int32 × jS), L_Mod_block_205 n x61 s62 = some r → J G m_Mod_block 2 0 0 P 222 [(0, .ref (ad 0)), (3, .int r.1)] [] (mkR ad G r.2) 0 0 → J G m_Mod_block 2 0 0 P 205 [(0, .ref (ad 0)), (3, .int x61)] [] (mkR ad G s62) 0 0 := by
  intro n
  induction n with
  | zero =>
    intro x61 s62 r H
    cases (show none = some r from H)
  | succ n ih =>
    intro x61 s62 r H kx
    have H : (
    if 64 ≤ x61 then
      some (x61, s62)
    else
      Option.bind (f_Mod_mix x61 s62) fun s64 =>
      jlet (x61 + 1) fun x66 =>
      L_Mod_block_205 n x66 s64) = some r := H
    refine j_iload_n (pc := 205) 1 (jd k_Mod_block 127 rfl) rfl ?_
    refine j_bipush (pc := 206) (v := 64) (jd k_Mod_block 128 rfl) (by decide) ?_
    refine j_icmp_ge (pc := 208) (tgt := 222) (jd k_Mod_block 129 rfl) rfl (fun h63 => ?_) (fun h63 => ?_)
    · rw [if_pos h63] at H
      cases H
      exact kx
    · rw [if_neg h63] at H
      refine j_aload_n (pc := 211) 0 (jd k_Mod_block 130 rfl) rfl ?_
      refine j_iload_n (pc := 212) 1 (jd k_Mod_block 131 rfl) rfl ?_
      obtain ⟨s64, h65, H⟩ := obnd H
      refine jc_V (pc := 213) (st := []) (c_Mod_mix ad G x61 s62 _ h65) L0_Mod_mix w1481 w1483 w60 0 rfl rfl (jd k_Mod_block 132 rfl) rfl (Nat.le_of_ble_eq_true rfl) (by decide) (Nat.le_refl _) (Nat.le_refl _) rfl rfl ?_
      obtain ⟨x66, e67, H⟩ := olet H
      refine j_iinc (pc := 216) (lv' := [(0, .ref (ad 0)), (3, .int x66)]) 1 (jd k_Mod_block 133 rfl) rfl e67 rfl (Nat.le_of_ble_eq_true rfl) rfl ?_
      refine j_goto (pc := 219) (tgt := 205) (jd k_Mod_block 134 rfl) rfl ?_
      exact ih x66 s64 _ H kx

set_option maxRecDepth 20000 in
theorem lp_Mod_block_179 {ad : Nat → Nat} {G : jG} {P : jR → va_W → Prop} : ∀ (n : Nat) (x49 : Int32) (s50 : jS) (r : Int32 × jS), L_Mod_block_179 n x49 s50 = some r → J G m_Mod_block 2 0 0 P 203 [(0, .ref (ad 0)), (3, .int r.1)] [] (mkR ad G r.2) 0 0 → J G m_Mod_block 2 0 0 P 179 [(0, .ref (ad 0)), (3, .int x49)] [] (mkR ad G s50) 0 0 := by
  intro n
  induction n with
  | zero =>
    intro x49 s50 r H
    cases (show none = some r from H)
  | succ n ih =>
    intro x49 s50 r H kx
    have H : (
    if 8 ≤ x49 then
      some (x49, s50)
    else
      if jin x49 8 then
      if jin x49 8 then
      jlet (va_up s50 47 (upd (s50 47) x49.toNatClampNeg (s50 44 x49.toNatClampNeg))) fun s53 =>
      jlet (x49 + 1) fun x56 =>
      L_Mod_block_179 n x56 s53
      else none
      else none) = some r := H
    refine j_iload_n (pc := 179) 1 (jd k_Mod_block 112 rfl) rfl ?_
    refine j_bipush (pc := 180) (v := 8) (jd k_Mod_block 113 rfl) (by decide) ?_
    refine j_icmp_ge (pc := 182) (tgt := 203) (jd k_Mod_block 114 rfl) rfl (fun h51 => ?_) (fun h51 => ?_)
    · rw [if_pos h51] at H
      cases H
      exact kx
    · rw [if_neg h51] at H
      refine j_aload_n (pc := 185) 0 (jd k_Mod_block 115 rfl) rfl ?_
      refine j_get (pc := 186) (fs := flR ad s50) (v := .ref (ad 28)) fl_Mod_163_10 0 (jd k_Mod_block 116 rfl) rfl rfl ?_
      refine j_iload_n (pc := 189) 1 (jd k_Mod_block 117 rfl) rfl ?_
      refine j_aload_n (pc := 190) 0 (jd k_Mod_block 118 rfl) rfl ?_
      refine j_get (pc := 191) (fs := flR ad s50) (v := .ref (ad 25)) fl_Mod_146_10 0 (jd k_Mod_block 119 rfl) rfl rfl ?_
      refine j_iload_n (pc := 194) 1 (jd k_Mod_block 120 rfl) rfl ?_
      obtain ⟨h52, H⟩ := ochk H
      refine j_iald (pc := 195) (f := s50 44) 25 (jd k_Mod_block 121 rfl) rfl (jin.vp h52) ?_
      obtain ⟨h55, H⟩ := ochk H
      obtain ⟨s53, e54, H⟩ := olet H
      refine j_iast (pc := 196) (f := s50 47) 28 (jd k_Mod_block 122 rfl) rfl (jin.vp h55) ((waR_47 ad G s50 _).trans (congrArg (mkR ad G) e54)) ?_
      obtain ⟨x56, e57, H⟩ := olet H
      refine j_iinc (pc := 197) (lv' := [(0, .ref (ad 0)), (3, .int x56)]) 1 (jd k_Mod_block 123 rfl) rfl e57 rfl (Nat.le_of_ble_eq_true rfl) rfl ?_
      refine j_goto (pc := 200) (tgt := 179) (jd k_Mod_block 124 rfl) rfl ?_
      exact ih x56 s53 _ H kx

set_option maxRecDepth 20000 in
theorem lp_Mod_block_76 {ad : Nat → Nat} {G : jG} {P : jR → va_W → Prop} : ∀ (n : Nat) (x22 : Int32) (s23 : jS) (r : Int32 × jS), L_Mod_block_76 n x22 s23 = some r → J G m_Mod_block 2 0 0 P 177 [(0, .ref (ad 0)), (3, .int r.1)] [] (mkR ad G r.2) 0 0 → J G m_Mod_block 2 0 0 P 76 [(0, .ref (ad 0)), (3, .int x22)] [] (mkR ad G s23) 0 0 := by
  intro n
  induction n with
  | zero =>
    intro x22 s23 r H
    cases (show none = some r from H)
  | succ n ih =>
    intro x22 s23 r H kx
    have H : (
    if 64 ≤ x22 then
      some (x22, s23)
    else
      if jin (x22 - 15) 64 then
      jlet (s23 46 (x22 - 15).toNatClampNeg) fun x26 =>
      if jin (x22 - 2) 64 then
      jlet (s23 46 (x22 - 2).toNatClampNeg) fun x28 =>
      if jin (x22 - 16) 64 then
      Option.bind (f_Mod_right x26 7) fun x30 =>
      Option.bind (f_Mod_right x26 18) fun x32 =>
      if jin (x22 - 7) 64 then
      Option.bind (f_Mod_right x28 17) fun x35 =>
      Option.bind (f_Mod_right x28 19) fun x37 =>
      if jin x22 64 then
      jlet (va_up s23 46 (upd (s23 46) x22.toNatClampNeg ((((s23 46 (x22 - 16).toNatClampNeg) + ((x30 ^^^ x32) ^^^ (jushr x26 3))) + (s23 46 (x22 - 7).toNatClampNeg)) + ((x35 ^^^ x37) ^^^ (jushr x28 10))))) fun s39 =>
      jlet (x22 + 1) fun x42 =>
      L_Mod_block_76 n x42 s39
      else none
      else none
      else none
      else none
      else none) = some r := H
    refine j_iload_n (pc := 76) 1 (jd k_Mod_block 50 rfl) rfl ?_
    refine j_bipush (pc := 77) (v := 64) (jd k_Mod_block 51 rfl) (by decide) ?_
    refine j_icmp_ge (pc := 79) (tgt := 177) (jd k_Mod_block 52 rfl) rfl (fun h24 => ?_) (fun h24 => ?_)
    · rw [if_pos h24] at H
      cases H
      exact kx
    · rw [if_neg h24] at H
      refine j_aload_n (pc := 82) 0 (jd k_Mod_block 53 rfl) rfl ?_
      refine j_get (pc := 83) (fs := flR ad s23) (v := .ref (ad 27)) fl_Mod_160_10 0 (jd k_Mod_block 54 rfl) rfl rfl ?_
      refine j_iload_n (pc := 86) 1 (jd k_Mod_block 55 rfl) rfl ?_
      refine j_bipush (pc := 87) (v := 15) (jd k_Mod_block 56 rfl) (by decide) ?_
      refine j_isub (pc := 89) (jd k_Mod_block 57 rfl) ?_
      obtain ⟨h25, H⟩ := ochk H
      refine j_iald (pc := 90) (f := s23 46) 27 (jd k_Mod_block 58 rfl) rfl (jin.vp h25) ?_
      obtain ⟨x26, e45, H⟩ := olet H
      refine j_topi e45 ?_
      refine j_istore (pc := 91) (lv' := [(0, .ref (ad 0)), (3, .int x22), (4, .int x26)]) (jd k_Mod_block 59 rfl) rfl (Nat.le_of_ble_eq_true rfl) rfl ?_
      refine j_aload_n (pc := 93) 0 (jd k_Mod_block 60 rfl) rfl ?_
      refine j_get (pc := 94) (fs := flR ad s23) (v := .ref (ad 27)) fl_Mod_160_10 0 (jd k_Mod_block 61 rfl) rfl rfl ?_
      refine j_iload_n (pc := 97) 1 (jd k_Mod_block 62 rfl) rfl ?_
      refine j_iconst (pc := 98) (v := 2) (jd k_Mod_block 63 rfl) (by decide) ?_
      refine j_isub (pc := 99) (jd k_Mod_block 64 rfl) ?_
      obtain ⟨h27, H⟩ := ochk H
      refine j_iald (pc := 100) (f := s23 46) 27 (jd k_Mod_block 65 rfl) rfl (jin.vp h27) ?_
      obtain ⟨x28, e44, H⟩ := olet H
      refine j_topi e44 ?_
      refine j_istore (pc := 101) (lv' := [(0, .ref (ad 0)), (3, .int x22), (4, .int x26), (5, .int x28)]) (jd k_Mod_block 66 rfl) rfl (Nat.le_of_ble_eq_true rfl) rfl ?_
      refine j_aload_n (pc := 103) 0 (jd k_Mod_block 67 rfl) rfl ?_
      refine j_get (pc := 104) (fs := flR ad s23) (v := .ref (ad 27)) fl_Mod_160_10 0 (jd k_Mod_block 68 rfl) rfl rfl ?_
      refine j_iload_n (pc := 107) 1 (jd k_Mod_block 69 rfl) rfl ?_
      refine j_aload_n (pc := 108) 0 (jd k_Mod_block 70 rfl) rfl ?_
      refine j_get (pc := 109) (fs := flR ad s23) (v := .ref (ad 27)) fl_Mod_160_10 0 (jd k_Mod_block 71 rfl) rfl rfl ?_
      refine j_iload_n (pc := 112) 1 (jd k_Mod_block 72 rfl) rfl ?_
      refine j_bipush (pc := 113) (v := 16) (jd k_Mod_block 73 rfl) (by decide) ?_
      refine j_isub (pc := 115) (jd k_Mod_block 74 rfl) ?_
      obtain ⟨h29, H⟩ := ochk H
      refine j_iald (pc := 116) (f := s23 46) 27 (jd k_Mod_block 75 rfl) rfl (jin.vp h29) ?_
      refine j_iload (pc := 117) 2 (jd k_Mod_block 76 rfl) rfl ?_
      refine j_bipush (pc := 119) (v := 7) (jd k_Mod_block 77 rfl) (by decide) ?_
      obtain ⟨x30, h31, H⟩ := obnd H
      refine jc_S (pc := 121) (st := [.int (s23 46 (x22 - 16).toNatClampNeg), .int x22, .ref (ad 27)]) (c_Mod_right G _ x26 7 _ h31) L0_Mod_right w1478 w1479 (jd k_Mod_block 78 rfl) rfl (Nat.le_of_ble_eq_true rfl) (by decide) (Nat.le_refl _) (Nat.le_refl _) rfl rfl ?_
      refine j_iload (pc := 124) 2 (jd k_Mod_block 79 rfl) rfl ?_
      refine j_bipush (pc := 126) (v := 18) (jd k_Mod_block 80 rfl) (by decide) ?_
      obtain ⟨x32, h33, H⟩ := obnd H
      refine jc_S (pc := 128) (st := [.int x30, .int (s23 46 (x22 - 16).toNatClampNeg), .int x22, .ref (ad 27)]) (c_Mod_right G _ x26 18 _ h33) L0_Mod_right w1478 w1479 (jd k_Mod_block 81 rfl) rfl (Nat.le_of_ble_eq_true rfl) (by decide) (Nat.le_refl _) (Nat.le_refl _) rfl rfl ?_
      refine j_ixor (pc := 131) (jd k_Mod_block 82 rfl) ?_
      refine j_iload (pc := 132) 2 (jd k_Mod_block 83 rfl) rfl ?_
      refine j_iconst (pc := 134) (v := 3) (jd k_Mod_block 84 rfl) (by decide) ?_
      refine j_iushr (pc := 135) (jd k_Mod_block 85 rfl) ?_
      refine j_ixor (pc := 136) (jd k_Mod_block 86 rfl) ?_
      refine j_iadd (pc := 137) (jd k_Mod_block 87 rfl) ?_
      refine j_aload_n (pc := 138) 0 (jd k_Mod_block 88 rfl) rfl ?_
      refine j_get (pc := 139) (fs := flR ad s23) (v := .ref (ad 27)) fl_Mod_160_10 0 (jd k_Mod_block 89 rfl) rfl rfl ?_
      refine j_iload_n (pc := 142) 1 (jd k_Mod_block 90 rfl) rfl ?_
      refine j_bipush (pc := 143) (v := 7) (jd k_Mod_block 91 rfl) (by decide) ?_
      refine j_isub (pc := 145) (jd k_Mod_block 92 rfl) ?_
      obtain ⟨h34, H⟩ := ochk H
      refine j_iald (pc := 146) (f := s23 46) 27 (jd k_Mod_block 93 rfl) rfl (jin.vp h34) ?_
      refine j_iadd (pc := 147) (jd k_Mod_block 94 rfl) ?_
      refine j_iload (pc := 148) 3 (jd k_Mod_block 95 rfl) rfl ?_
      refine j_bipush (pc := 150) (v := 17) (jd k_Mod_block 96 rfl) (by decide) ?_
      obtain ⟨x35, h36, H⟩ := obnd H
      refine jc_S (pc := 152) (st := [.int (((s23 46 (x22 - 16).toNatClampNeg) + ((x30 ^^^ x32) ^^^ (jushr x26 3))) + (s23 46 (x22 - 7).toNatClampNeg)), .int x22, .ref (ad 27)]) (c_Mod_right G _ x28 17 _ h36) L0_Mod_right w1478 w1479 (jd k_Mod_block 97 rfl) rfl (Nat.le_of_ble_eq_true rfl) (by decide) (Nat.le_refl _) (Nat.le_refl _) rfl rfl ?_
      refine j_iload (pc := 155) 3 (jd k_Mod_block 98 rfl) rfl ?_
      refine j_bipush (pc := 157) (v := 19) (jd k_Mod_block 99 rfl) (by decide) ?_
      obtain ⟨x37, h38, H⟩ := obnd H
      refine jc_S (pc := 159) (st := [.int x35, .int (((s23 46 (x22 - 16).toNatClampNeg) + ((x30 ^^^ x32) ^^^ (jushr x26 3))) + (s23 46 (x22 - 7).toNatClampNeg)), .int x22, .ref (ad 27)]) (c_Mod_right G _ x28 19 _ h38) L0_Mod_right w1478 w1479 (jd k_Mod_block 100 rfl) rfl (Nat.le_of_ble_eq_true rfl) (by decide) (Nat.le_refl _) (Nat.le_refl _) rfl rfl ?_
      refine j_ixor (pc := 162) (jd k_Mod_block 101 rfl) ?_
      refine j_iload (pc := 163) 3 (jd k_Mod_block 102 rfl) rfl ?_
      refine j_bipush (pc := 165) (v := 10) (jd k_Mod_block 103 rfl) (by decide) ?_
      refine j_iushr (pc := 167) (jd k_Mod_block 104 rfl) ?_
      refine j_ixor (pc := 168) (jd k_Mod_block 105 rfl) ?_
      refine j_iadd (pc := 169) (jd k_Mod_block 106 rfl) ?_
      obtain ⟨h41, H⟩ := ochk H
      obtain ⟨s39, e40, H⟩ := olet H
      refine j_iast (pc := 170) (f := s23 46) 27 (jd k_Mod_block 107 rfl) rfl (jin.vp h41) ((waR_46 ad G s23 _).trans (congrArg (mkR ad G) e40)) ?_
      obtain ⟨x42, e43, H⟩ := olet H
      refine j_iinc (pc := 171) (lv' := [(0, .ref (ad 0)), (3, .int x42), (4, .int x26), (5, .int x28)]) 1 (jd k_Mod_block 108 rfl) rfl e43 rfl (Nat.le_of_ble_eq_true rfl) rfl ?_
      refine j_goto (pc := 174) (tgt := 76) (jd k_Mod_block 109 rfl) rfl ?_
      refine j_pick (lv' := [(0, .ref (ad 0)), (3, .int x42)]) [0, 1] rfl ?_
      exact ih x42 s39 _ H kx

set_option maxRecDepth 20000 in
theorem lp_Mod_block_2 {ad : Nat → Nat} {G : jG} {P : jR → va_W → Prop} (p0 : Int32) (p1 : Int32) : ∀ (n : Nat) (x1 : Int32) (s2 : jS) (r : Int32 × jS), L_Mod_block_2 p0 p1 n x1 s2 = some r → J G m_Mod_block 2 0 0 P 73 [(0, .ref (ad 0)), (1, .int p0), (2, .int p1), (3, .int r.1)] [] (mkR ad G r.2) 0 0 → J G m_Mod_block 2 0 0 P 2 [(0, .ref (ad 0)), (1, .int p0), (2, .int p1), (3, .int x1)] [] (mkR ad G s2) 0 0 := by
  intro n
  induction n with
  | zero =>
    intro x1 s2 r H
    cases (show none = some r from H)
  | succ n ih =>
    intro x1 s2 r H kx
    have H : (
    if 16 ≤ x1 then
      some (x1, s2)
    else
      jlet (p0 + (4 * x1)) fun x4 =>
      Option.bind (f_Mod_padded x4 p1 s2) fun x5 =>
      Option.bind (f_Mod_padded (x4 + 1) p1 s2) fun x7 =>
      Option.bind (f_Mod_padded (x4 + 2) p1 s2) fun x9 =>
      Option.bind (f_Mod_padded (x4 + 3) p1 s2) fun x11 =>
      if jin x1 64 then
      jlet (va_up s2 46 (upd (s2 46) x1.toNatClampNeg ((((x5 <<< (24 &&& 31)) ||| (x7 <<< (16 &&& 31))) ||| (x9 <<< (8 &&& 31))) ||| x11))) fun s13 =>
      jlet (x1 + 1) fun x16 =>
      L_Mod_block_2 p0 p1 n x16 s13
      else none) = some r := H
    refine j_iload_n (pc := 2) 3 (jd k_Mod_block 2 rfl) rfl ?_
    refine j_bipush (pc := 3) (v := 16) (jd k_Mod_block 3 rfl) (by decide) ?_
    refine j_icmp_ge (pc := 5) (tgt := 73) (jd k_Mod_block 4 rfl) rfl (fun h3 => ?_) (fun h3 => ?_)
    · rw [if_pos h3] at H
      cases H
      exact kx
    · rw [if_neg h3] at H
      refine j_iload_n (pc := 8) 1 (jd k_Mod_block 5 rfl) rfl ?_
      refine j_iconst (pc := 9) (v := 4) (jd k_Mod_block 6 rfl) (by decide) ?_
      refine j_iload_n (pc := 10) 3 (jd k_Mod_block 7 rfl) rfl ?_
      refine j_imul (pc := 11) (jd k_Mod_block 8 rfl) ?_
      refine j_iadd (pc := 12) (jd k_Mod_block 9 rfl) ?_
      obtain ⟨x4, e18, H⟩ := olet H
      refine j_topi e18 ?_
      refine j_istore (pc := 13) (lv' := [(0, .ref (ad 0)), (1, .int p0), (2, .int p1), (3, .int x1), (4, .int x4)]) (jd k_Mod_block 10 rfl) rfl (Nat.le_of_ble_eq_true rfl) rfl ?_
      refine j_aload_n (pc := 15) 0 (jd k_Mod_block 11 rfl) rfl ?_
      refine j_get (pc := 16) (fs := flR ad s2) (v := .ref (ad 27)) fl_Mod_160_10 0 (jd k_Mod_block 12 rfl) rfl rfl ?_
      refine j_iload_n (pc := 19) 3 (jd k_Mod_block 13 rfl) rfl ?_
      refine j_aload_n (pc := 20) 0 (jd k_Mod_block 14 rfl) rfl ?_
      refine j_iload (pc := 21) 4 (jd k_Mod_block 15 rfl) rfl ?_
      refine j_iload_n (pc := 23) 2 (jd k_Mod_block 16 rfl) rfl ?_
      obtain ⟨x5, h6, H⟩ := obnd H
      refine jc_V (pc := 24) (st := [.int x1, .ref (ad 27)]) (c_Mod_padded ad G x4 p1 s2 _ h6) L0_Mod_padded w1474 w1476 w59 0 rfl rfl (jd k_Mod_block 17 rfl) rfl (Nat.le_of_ble_eq_true rfl) (by decide) (Nat.le_refl _) (Nat.le_refl _) rfl rfl ?_
      refine j_bipush (pc := 27) (v := 24) (jd k_Mod_block 18 rfl) (by decide) ?_
      refine j_ishl (pc := 29) (jd k_Mod_block 19 rfl) ?_
      refine j_aload_n (pc := 30) 0 (jd k_Mod_block 20 rfl) rfl ?_
      refine j_iload (pc := 31) 4 (jd k_Mod_block 21 rfl) rfl ?_
      refine j_iconst (pc := 33) (v := 1) (jd k_Mod_block 22 rfl) (by decide) ?_
      refine j_iadd (pc := 34) (jd k_Mod_block 23 rfl) ?_
      refine j_iload_n (pc := 35) 2 (jd k_Mod_block 24 rfl) rfl ?_
      obtain ⟨x7, h8, H⟩ := obnd H
      refine jc_V (pc := 36) (st := [.int (x5 <<< (24 &&& 31)), .int x1, .ref (ad 27)]) (c_Mod_padded ad G (x4 + 1) p1 s2 _ h8) L0_Mod_padded w1474 w1476 w59 0 rfl rfl (jd k_Mod_block 25 rfl) rfl (Nat.le_of_ble_eq_true rfl) (by decide) (Nat.le_refl _) (Nat.le_refl _) rfl rfl ?_
      refine j_bipush (pc := 39) (v := 16) (jd k_Mod_block 26 rfl) (by decide) ?_
      refine j_ishl (pc := 41) (jd k_Mod_block 27 rfl) ?_
      refine j_ior (pc := 42) (jd k_Mod_block 28 rfl) ?_
      refine j_aload_n (pc := 43) 0 (jd k_Mod_block 29 rfl) rfl ?_
      refine j_iload (pc := 44) 4 (jd k_Mod_block 30 rfl) rfl ?_
      refine j_iconst (pc := 46) (v := 2) (jd k_Mod_block 31 rfl) (by decide) ?_
      refine j_iadd (pc := 47) (jd k_Mod_block 32 rfl) ?_
      refine j_iload_n (pc := 48) 2 (jd k_Mod_block 33 rfl) rfl ?_
      obtain ⟨x9, h10, H⟩ := obnd H
      refine jc_V (pc := 49) (st := [.int ((x5 <<< (24 &&& 31)) ||| (x7 <<< (16 &&& 31))), .int x1, .ref (ad 27)]) (c_Mod_padded ad G (x4 + 2) p1 s2 _ h10) L0_Mod_padded w1474 w1476 w59 0 rfl rfl (jd k_Mod_block 34 rfl) rfl (Nat.le_of_ble_eq_true rfl) (by decide) (Nat.le_refl _) (Nat.le_refl _) rfl rfl ?_
      refine j_bipush (pc := 52) (v := 8) (jd k_Mod_block 35 rfl) (by decide) ?_
      refine j_ishl (pc := 54) (jd k_Mod_block 36 rfl) ?_
      refine j_ior (pc := 55) (jd k_Mod_block 37 rfl) ?_
      refine j_aload_n (pc := 56) 0 (jd k_Mod_block 38 rfl) rfl ?_
      refine j_iload (pc := 57) 4 (jd k_Mod_block 39 rfl) rfl ?_
      refine j_iconst (pc := 59) (v := 3) (jd k_Mod_block 40 rfl) (by decide) ?_
      refine j_iadd (pc := 60) (jd k_Mod_block 41 rfl) ?_
      refine j_iload_n (pc := 61) 2 (jd k_Mod_block 42 rfl) rfl ?_
      obtain ⟨x11, h12, H⟩ := obnd H
      refine jc_V (pc := 62) (st := [.int (((x5 <<< (24 &&& 31)) ||| (x7 <<< (16 &&& 31))) ||| (x9 <<< (8 &&& 31))), .int x1, .ref (ad 27)]) (c_Mod_padded ad G (x4 + 3) p1 s2 _ h12) L0_Mod_padded w1474 w1476 w59 0 rfl rfl (jd k_Mod_block 43 rfl) rfl (Nat.le_of_ble_eq_true rfl) (by decide) (Nat.le_refl _) (Nat.le_refl _) rfl rfl ?_
      refine j_ior (pc := 65) (jd k_Mod_block 44 rfl) ?_
      obtain ⟨h15, H⟩ := ochk H
      obtain ⟨s13, e14, H⟩ := olet H
      refine j_iast (pc := 66) (f := s2 46) 27 (jd k_Mod_block 45 rfl) rfl (jin.vp h15) ((waR_46 ad G s2 _).trans (congrArg (mkR ad G) e14)) ?_
      obtain ⟨x16, e17, H⟩ := olet H
      refine j_iinc (pc := 67) (lv' := [(0, .ref (ad 0)), (1, .int p0), (2, .int p1), (3, .int x16), (4, .int x4)]) 3 (jd k_Mod_block 46 rfl) rfl e17 rfl (Nat.le_of_ble_eq_true rfl) rfl ?_
      refine j_goto (pc := 70) (tgt := 2) (jd k_Mod_block 47 rfl) rfl ?_
      refine j_pick (lv' := [(0, .ref (ad 0)), (1, .int p0), (2, .int p1), (3, .int x16)]) [0, 1, 2, 3] rfl ?_
      exact ih x16 s13 _ H kx

set_option maxRecDepth 20000 in
theorem c_Mod_block (ad : Nat → Nat) (G : jG) (p0 : Int32) (p1 : Int32) (s : jS) (r : jS) (H : f_Mod_block p0 p1 s = some r) : jCon G m_Mod_block y_Mod_block 2 0 0 [.ref (ad 0), .int p0, .int p1] (mkR ad G s) (jEq none (mkR ad G r)) := by
  refine jCon.of (by decide +kernel) rfl rfl rfl (Nat.le_of_ble_eq_true rfl) rfl ?_
  have H : (
  Option.bind (L_Mod_block_2 p0 p1 jF 0 s) fun (x19, s20) =>
  Option.bind (L_Mod_block_76 jF 16 s20) fun (x46, s47) =>
  Option.bind (L_Mod_block_179 jF 0 s47) fun (x58, s59) =>
  Option.bind (L_Mod_block_205 jF 0 s59) fun (x68, s69) =>
  Option.bind (L_Mod_block_224 jF 0 s69) fun (x81, s82) =>
  some s82) = some r := H
  generalize hP9 : jEq none (mkR ad G r) = P
  refine j_iconst (pc := 0) (v := 0) (jd k_Mod_block 0 rfl) (by decide) ?_
  refine j_istore_n (pc := 1) (lv' := [(0, .ref (ad 0)), (1, .int p0), (2, .int p1), (3, .int 0)]) (jd k_Mod_block 1 rfl) rfl (Nat.le_of_ble_eq_true rfl) rfl ?_
  obtain ⟨⟨x19, s20⟩, h21, H⟩ := obnd H
  try dsimp only at H
  refine lp_Mod_block_2 p0 p1 jF 0 s _ h21 ?_
  refine j_pick (lv' := [(0, .ref (ad 0))]) [0] rfl ?_
  refine j_bipush (pc := 73) (v := 16) (jd k_Mod_block 48 rfl) (by decide) ?_
  refine j_istore_n (pc := 75) (lv' := [(0, .ref (ad 0)), (3, .int 16)]) (jd k_Mod_block 49 rfl) rfl (Nat.le_of_ble_eq_true rfl) rfl ?_
  obtain ⟨⟨x46, s47⟩, h48, H⟩ := obnd H
  try dsimp only at H
  refine lp_Mod_block_76  jF 16 s20 _ h48 ?_
  refine j_pick (lv' := [(0, .ref (ad 0))]) [0] rfl ?_
  refine j_iconst (pc := 177) (v := 0) (jd k_Mod_block 110 rfl) (by decide) ?_
  refine j_istore_n (pc := 178) (lv' := [(0, .ref (ad 0)), (3, .int 0)]) (jd k_Mod_block 111 rfl) rfl (Nat.le_of_ble_eq_true rfl) rfl ?_
  obtain ⟨⟨x58, s59⟩, h60, H⟩ := obnd H
  try dsimp only at H
  refine lp_Mod_block_179  jF 0 s47 _ h60 ?_
  refine j_pick (lv' := [(0, .ref (ad 0))]) [0] rfl ?_
  refine j_iconst (pc := 203) (v := 0) (jd k_Mod_block 125 rfl) (by decide) ?_
  refine j_istore_n (pc := 204) (lv' := [(0, .ref (ad 0)), (3, .int 0)]) (jd k_Mod_block 126 rfl) rfl (Nat.le_of_ble_eq_true rfl) rfl ?_
  obtain ⟨⟨x68, s69⟩, h70, H⟩ := obnd H
  try dsimp only at H
  refine lp_Mod_block_205  jF 0 s59 _ h70 ?_
  refine j_pick (lv' := [(0, .ref (ad 0))]) [0] rfl ?_
  refine j_iconst (pc := 222) (v := 0) (jd k_Mod_block 135 rfl) (by decide) ?_
  refine j_istore_n (pc := 223) (lv' := [(0, .ref (ad 0)), (3, .int 0)]) (jd k_Mod_block 136 rfl) rfl (Nat.le_of_ble_eq_true rfl) rfl ?_
  obtain ⟨⟨x81, s82⟩, h83, H⟩ := obnd H
  try dsimp only at H
  refine lp_Mod_block_224  jF 0 s69 _ h83 ?_
  refine j_pick (lv' := []) [] rfl ?_
  cases H
  subst hP9
  exact j_vret (pc := 251) (jd k_Mod_block 153 rfl) rfl ⟨rfl, rfl⟩

set_option maxRecDepth 20000 in
theorem lp_Mod_digest_73 {ad : Nat → Nat} {G : jG} {P : jR → va_W → Prop} (p0 : Int32) (x9 : Int32) : ∀ (n : Nat) (x22 : Int32) (s23 : jS) (r : Int32 × jS), L_Mod_digest_73 x9 n x22 s23 = some r → J G m_Mod_digest 3 0 0 P 90 [(0, .ref (ad 0)), (1, .int p0), (2, .int x9), (3, .int r.1)] [] (mkR ad G r.2) 0 0 → J G m_Mod_digest 3 0 0 P 73 [(0, .ref (ad 0)), (1, .int p0), (2, .int x9), (3, .int x22)] [] (mkR ad G s23) 0 0 := by
  intro n
  induction n with
  | zero =>
    intro x22 s23 r H
    cases (show none = some r from H)
  | succ n ih =>
    intro x22 s23 r H kx
    have H : (
    if x9 ≤ x22 then
      some (x22, s23)
    else
      Option.bind (f_Mod_block x22 x9 s23) fun s25 =>
      jlet (x22 + 64) fun x27 =>
      L_Mod_digest_73 x9 n x27 s25) = some r := H
    refine j_iload_n (pc := 73) 3 (jd k_Mod_digest 43 rfl) rfl ?_
    refine j_iload_n (pc := 74) 2 (jd k_Mod_digest 44 rfl) rfl ?_
    refine j_icmp_ge (pc := 75) (tgt := 90) (jd k_Mod_digest 45 rfl) rfl (fun h24 => ?_) (fun h24 => ?_)
    · rw [if_pos h24] at H
      cases H
      exact kx
    · rw [if_neg h24] at H
      refine j_aload_n (pc := 78) 0 (jd k_Mod_digest 46 rfl) rfl ?_
      refine j_iload_n (pc := 79) 3 (jd k_Mod_digest 47 rfl) rfl ?_
      refine j_iload_n (pc := 80) 2 (jd k_Mod_digest 48 rfl) rfl ?_
      obtain ⟨s25, h26, H⟩ := obnd H
      refine jc_V (pc := 81) (st := []) (c_Mod_block ad G x22 x9 s23 _ h26) L0_Mod_block w1470 w1472 w58 0 rfl rfl (jd k_Mod_digest 49 rfl) rfl (Nat.le_of_ble_eq_true rfl) (by decide) (Nat.le_refl _) (Nat.le_refl _) rfl rfl ?_
      obtain ⟨x27, e28, H⟩ := olet H
      refine j_iinc (pc := 84) (lv' := [(0, .ref (ad 0)), (1, .int p0), (2, .int x9), (3, .int x27)]) 3 (jd k_Mod_digest 50 rfl) rfl e28 rfl (Nat.le_of_ble_eq_true rfl) rfl ?_
      refine j_goto (pc := 87) (tgt := 73) (jd k_Mod_digest 51 rfl) rfl ?_
      exact ih x27 s25 _ H kx

set_option maxRecDepth 20000 in
theorem lp_Mod_digest_47 {ad : Nat → Nat} {G : jG} {P : jR → va_W → Prop} (p0 : Int32) (x9 : Int32) : ∀ (n : Nat) (x10 : Int32) (s11 : jS) (r : Int32 × jS), L_Mod_digest_47 n x10 s11 = some r → J G m_Mod_digest 3 0 0 P 71 [(0, .ref (ad 0)), (1, .int p0), (2, .int x9), (3, .int r.1)] [] (mkR ad G r.2) 0 0 → J G m_Mod_digest 3 0 0 P 47 [(0, .ref (ad 0)), (1, .int p0), (2, .int x9), (3, .int x10)] [] (mkR ad G s11) 0 0 := by
  intro n
  induction n with
  | zero =>
    intro x10 s11 r H
    cases (show none = some r from H)
  | succ n ih =>
    intro x10 s11 r H kx
    have H : (
    if 8 ≤ x10 then
      some (x10, s11)
    else
      if jin x10 8 then
      if jin x10 8 then
      jlet (va_up s11 44 (upd (s11 44) x10.toNatClampNeg (s11 45 x10.toNatClampNeg))) fun s14 =>
      jlet (x10 + 1) fun x17 =>
      L_Mod_digest_47 n x17 s14
      else none
      else none) = some r := H
    refine j_iload_n (pc := 47) 3 (jd k_Mod_digest 28 rfl) rfl ?_
    refine j_bipush (pc := 48) (v := 8) (jd k_Mod_digest 29 rfl) (by decide) ?_
    refine j_icmp_ge (pc := 50) (tgt := 71) (jd k_Mod_digest 30 rfl) rfl (fun h12 => ?_) (fun h12 => ?_)
    · rw [if_pos h12] at H
      cases H
      exact kx
    · rw [if_neg h12] at H
      refine j_aload_n (pc := 53) 0 (jd k_Mod_digest 31 rfl) rfl ?_
      refine j_get (pc := 54) (fs := flR ad s11) (v := .ref (ad 25)) fl_Mod_146_10 0 (jd k_Mod_digest 32 rfl) rfl rfl ?_
      refine j_iload_n (pc := 57) 3 (jd k_Mod_digest 33 rfl) rfl ?_
      refine j_aload_n (pc := 58) 0 (jd k_Mod_digest 34 rfl) rfl ?_
      refine j_get (pc := 59) (fs := flR ad s11) (v := .ref (ad 26)) fl_Mod_157_10 0 (jd k_Mod_digest 35 rfl) rfl rfl ?_
      refine j_iload_n (pc := 62) 3 (jd k_Mod_digest 36 rfl) rfl ?_
      obtain ⟨h13, H⟩ := ochk H
      refine j_iald (pc := 63) (f := s11 45) 26 (jd k_Mod_digest 37 rfl) rfl (jin.vp h13) ?_
      obtain ⟨h16, H⟩ := ochk H
      obtain ⟨s14, e15, H⟩ := olet H
      refine j_iast (pc := 64) (f := s11 44) 25 (jd k_Mod_digest 38 rfl) rfl (jin.vp h16) ((waR_44 ad G s11 _).trans (congrArg (mkR ad G) e15)) ?_
      obtain ⟨x17, e18, H⟩ := olet H
      refine j_iinc (pc := 65) (lv' := [(0, .ref (ad 0)), (1, .int p0), (2, .int x9), (3, .int x17)]) 3 (jd k_Mod_digest 39 rfl) rfl e18 rfl (Nat.le_of_ble_eq_true rfl) rfl ?_
      refine j_goto (pc := 68) (tgt := 47) (jd k_Mod_digest 40 rfl) rfl ?_
      exact ih x17 s14 _ H kx

set_option maxRecDepth 20000 in
theorem c_Mod_digest (ad : Nat → Nat) (G : jG) (p0 : Int32) (s : jS) (r : Int32 × jS) (H : f_Mod_digest p0 s = some r) : jCon G m_Mod_digest y_Mod_digest 3 0 0 [.ref (ad 0), .int p0] (mkR ad G s) (jEq (some (.int r.1)) (mkR ad G r.2)) := by
  refine jCon.of (by decide +kernel) rfl rfl rfl (Nat.le_of_ble_eq_true rfl) rfl ?_
  have H : (
  Option.bind (α := Int32) (
    if p0 < 0 then
      some 1
    else
      if p0 ≤ 7 then
        some 0
      else
        some 1) fun x3 =>
  jlet (va_up s 0 (fun _ => x3)) fun s6 =>
  if (s6 0 0) ≤ 0 then
    jlet (((((s6 40 0) + 9) + 63) / 64) * 64) fun x9 =>
    Option.bind (L_Mod_digest_47 jF 0 s6) fun (x19, s20) =>
    Option.bind (L_Mod_digest_73 x9 jF 0 s20) fun (x29, s30) =>
    if jin p0 8 then
    some (s30 44 p0.toNatClampNeg, s30)
    else none
  else
    some (0, s6)) = some r := H
  generalize hP9 : jEq (some (.int r.1)) (mkR ad G r.2) = P
  refine j_aload_n (pc := 0) 0 (jd k_Mod_digest 0 rfl) rfl ?_
  refine j_iload_n (pc := 1) 1 (jd k_Mod_digest 1 rfl) rfl ?_
  obtain ⟨x3, h4, H⟩ := obnd H
  have K5 : J G m_Mod_digest 3 0 0 P 16 [(0, .ref (ad 0)), (1, .int p0)] [.int x3, .ref (ad 0)] (mkR ad G s) 0 0 := by
    obtain ⟨s6, e7, H⟩ := olet H
    refine j_put (pc := 16) (fs := flR ad s) (fp_Mod_170_10 _) 0 (jd k_Mod_digest 9 rfl) rfl rfl rfl (Nat.le_of_ble_eq_true rfl) ((wpR_0 ad G s _).trans (congrArg (mkR ad G) e7)) ?_
    refine j_aload_n (pc := 19) 0 (jd k_Mod_digest 10 rfl) rfl ?_
    refine j_get (pc := 20) (fs := flR ad s6) (v := .int (s6 0 0)) fl_Mod_170_10 0 (jd k_Mod_digest 11 rfl) rfl rfl ?_
    refine j_if_le (pc := 23) (tgt := 28) (jd k_Mod_digest 12 rfl) rfl (fun h8 => ?_) (fun h8 => ?_)
    · rw [if_pos h8] at H
      refine j_aload_n (pc := 28) 0 (jd k_Mod_digest 15 rfl) rfl ?_
      refine j_get (pc := 29) (fs := flR ad s6) (v := .int (s6 40 0)) fl_Mod_234_10 0 (jd k_Mod_digest 16 rfl) rfl rfl ?_
      refine j_bipush (pc := 32) (v := 9) (jd k_Mod_digest 17 rfl) (by decide) ?_
      refine j_iadd (pc := 34) (jd k_Mod_digest 18 rfl) ?_
      refine j_bipush (pc := 35) (v := 63) (jd k_Mod_digest 19 rfl) (by decide) ?_
      refine j_iadd (pc := 37) (jd k_Mod_digest 20 rfl) ?_
      refine j_bipush (pc := 38) (v := 64) (jd k_Mod_digest 21 rfl) (by decide) ?_
      refine j_idiv (pc := 40) (jd k_Mod_digest 22 rfl) (by decide) ?_
      refine j_bipush (pc := 41) (v := 64) (jd k_Mod_digest 23 rfl) (by decide) ?_
      refine j_imul (pc := 43) (jd k_Mod_digest 24 rfl) ?_
      obtain ⟨x9, e33, H⟩ := olet H
      refine j_topi e33 ?_
      refine j_istore_n (pc := 44) (lv' := [(0, .ref (ad 0)), (1, .int p0), (2, .int x9)]) (jd k_Mod_digest 25 rfl) rfl (Nat.le_of_ble_eq_true rfl) rfl ?_
      refine j_iconst (pc := 45) (v := 0) (jd k_Mod_digest 26 rfl) (by decide) ?_
      refine j_istore_n (pc := 46) (lv' := [(0, .ref (ad 0)), (1, .int p0), (2, .int x9), (3, .int 0)]) (jd k_Mod_digest 27 rfl) rfl (Nat.le_of_ble_eq_true rfl) rfl ?_
      obtain ⟨⟨x19, s20⟩, h21, H⟩ := obnd H
      try dsimp only at H
      refine lp_Mod_digest_47 p0 x9 jF 0 s6 _ h21 ?_
      refine j_pick (lv' := [(0, .ref (ad 0)), (1, .int p0), (2, .int x9)]) [0, 1, 2] rfl ?_
      refine j_iconst (pc := 71) (v := 0) (jd k_Mod_digest 41 rfl) (by decide) ?_
      refine j_istore_n (pc := 72) (lv' := [(0, .ref (ad 0)), (1, .int p0), (2, .int x9), (3, .int 0)]) (jd k_Mod_digest 42 rfl) rfl (Nat.le_of_ble_eq_true rfl) rfl ?_
      obtain ⟨⟨x29, s30⟩, h31, H⟩ := obnd H
      try dsimp only at H
      refine lp_Mod_digest_73 p0 x9 jF 0 s20 _ h31 ?_
      refine j_pick (lv' := [(0, .ref (ad 0)), (1, .int p0)]) [0, 1] rfl ?_
      refine j_aload_n (pc := 90) 0 (jd k_Mod_digest 52 rfl) rfl ?_
      refine j_get (pc := 91) (fs := flR ad s30) (v := .ref (ad 25)) fl_Mod_146_10 0 (jd k_Mod_digest 53 rfl) rfl rfl ?_
      refine j_iload_n (pc := 94) 1 (jd k_Mod_digest 54 rfl) rfl ?_
      obtain ⟨h32, H⟩ := ochk H
      refine j_iald (pc := 95) (f := s30 44) 25 (jd k_Mod_digest 55 rfl) rfl (jin.vp h32) ?_
      cases H
      subst hP9
      exact j_iret (pc := 96) (jd k_Mod_digest 56 rfl) rfl rfl ⟨rfl, rfl⟩
    · rw [if_neg h8] at H
      refine j_iconst (pc := 26) (v := 0) (jd k_Mod_digest 13 rfl) (by decide) ?_
      cases H
      subst hP9
      exact j_iret (pc := 27) (jd k_Mod_digest 14 rfl) rfl rfl ⟨rfl, rfl⟩
  have H := h4
  refine j_if_lt (pc := 2) (tgt := 11) (jd k_Mod_digest 2 rfl) rfl (fun h1 => ?_) (fun h1 => ?_)
  · rw [if_pos h1] at H
    refine j_iconst (pc := 11) (v := 1) (jd k_Mod_digest 6 rfl) (by decide) ?_
    refine j_goto (pc := 12) (tgt := 16) (jd k_Mod_digest 7 rfl) rfl ?_
    cases H
    exact K5
  · rw [if_neg h1] at H
    refine j_iload_n (pc := 5) 1 (jd k_Mod_digest 3 rfl) rfl ?_
    refine j_bipush (pc := 6) (v := 7) (jd k_Mod_digest 4 rfl) (by decide) ?_
    refine j_icmp_le (pc := 8) (tgt := 15) (jd k_Mod_digest 5 rfl) rfl (fun h2 => ?_) (fun h2 => ?_)
    · rw [if_pos h2] at H
      refine j_iconst (pc := 15) (v := 0) (jd k_Mod_digest 8 rfl) (by decide) ?_
      cases H
      exact K5
    · rw [if_neg h2] at H
      refine j_iconst (pc := 11) (v := 1) (jd k_Mod_digest 6 rfl) (by decide) ?_
      refine j_goto (pc := 12) (tgt := 16) (jd k_Mod_digest 7 rfl) rfl ?_
      cases H
      exact K5

set_option maxRecDepth 20000 in
theorem c_Mod_enough (ad : Nat → Nat) (G : jG) (p0 : Int32) (s : jS) (r : Int32) (H : f_Mod_enough p0 s = some r) : jCon G m_Mod_enough y_Mod_enough 2 0 0 [.ref (ad 0), .int p0] (mkR ad G s) (jEq (some (.int r)) (mkR ad G s)) := by
  refine jCon.of (by decide +kernel) rfl rfl rfl (Nat.le_of_ble_eq_true rfl) rfl ?_
  have H : (
  Option.bind (α := Int32) (
    if p0 < 0 then
      some 0
    else
      Option.bind (f_Mod_mask s) fun x2 =>
      if x2 < p0 then
        some 0
      else
        Option.bind (f_Mod_bits p0) fun x5 =>
        if x5 < (s 12 0) then
          some 0
        else
          some 1) fun x8 =>
  if jbo x8 then
  some x8
  else none) = some r := H
  generalize hP9 : jEq (some (.int r)) (mkR ad G s) = P
  refine j_iload_n (pc := 0) 1 (jd k_Mod_enough 0 rfl) rfl ?_
  obtain ⟨x8, h9, H⟩ := obnd H
  have K10 : J G m_Mod_enough 2 0 0 P 28 [] [.int x8] (mkR ad G s) 0 0 := by
    obtain ⟨h11, H⟩ := ochk H
    cases H
    subst hP9
    exact j_iret (pc := 28) (jd k_Mod_enough 14 rfl) rfl (jbo.nar h11) ⟨rfl, rfl⟩
  have H := h9
  refine j_if_lt (pc := 1) (tgt := 27) (jd k_Mod_enough 1 rfl) rfl (fun h1 => ?_) (fun h1 => ?_)
  · rw [if_pos h1] at H
    refine j_iconst (pc := 27) (v := 0) (jd k_Mod_enough 13 rfl) (by decide) ?_
    cases H
    exact j_pick [] rfl K10
  · rw [if_neg h1] at H
    refine j_iload_n (pc := 4) 1 (jd k_Mod_enough 2 rfl) rfl ?_
    refine j_aload_n (pc := 5) 0 (jd k_Mod_enough 3 rfl) rfl ?_
    obtain ⟨x2, h3, H⟩ := obnd H
    refine jc_V (pc := 6) (st := [.int p0]) (c_Mod_mask ad G s _ h3) L0_Mod_mask w1434 w1436 w57 0 rfl rfl (jd k_Mod_enough 4 rfl) rfl (Nat.le_of_ble_eq_true rfl) (by decide) (Nat.le_refl _) (Nat.le_refl _) rfl rfl ?_
    refine j_icmp_gt (pc := 9) (tgt := 27) (jd k_Mod_enough 5 rfl) rfl (fun h4 => ?_) (fun h4 => ?_)
    · rw [if_pos h4] at H
      refine j_iconst (pc := 27) (v := 0) (jd k_Mod_enough 13 rfl) (by decide) ?_
      cases H
      exact j_pick [] rfl K10
    · rw [if_neg h4] at H
      refine j_iload_n (pc := 12) 1 (jd k_Mod_enough 6 rfl) rfl ?_
      obtain ⟨x5, h6, H⟩ := obnd H
      refine jc_S (pc := 13) (st := []) (c_Mod_bits G _ p0 _ h6) L0_Mod_bits w1403 w1404 (jd k_Mod_enough 7 rfl) rfl (Nat.le_of_ble_eq_true rfl) (by decide) (Nat.le_refl _) (Nat.le_refl _) rfl rfl ?_
      refine j_aload_n (pc := 16) 0 (jd k_Mod_enough 8 rfl) rfl ?_
      refine j_get (pc := 17) (fs := flR ad s) (v := .int (s 12 0)) fl_Mod_216_10 0 (jd k_Mod_enough 9 rfl) rfl rfl ?_
      refine j_icmp_lt (pc := 20) (tgt := 27) (jd k_Mod_enough 10 rfl) rfl (fun h7 => ?_) (fun h7 => ?_)
      · rw [if_pos h7] at H
        refine j_iconst (pc := 27) (v := 0) (jd k_Mod_enough 13 rfl) (by decide) ?_
        cases H
        exact j_pick [] rfl K10
      · rw [if_neg h7] at H
        refine j_iconst (pc := 23) (v := 1) (jd k_Mod_enough 11 rfl) (by decide) ?_
        refine j_goto (pc := 24) (tgt := 28) (jd k_Mod_enough 12 rfl) rfl ?_
        cases H
        exact j_pick [] rfl K10

set_option maxRecDepth 20000 in
theorem lp_Mod_recover_46 {ad : Nat → Nat} {G : jG} {P : jR → va_W → Prop} (p0 : Int32) : ∀ (n : Nat) (x12 : Int32) (s13 : jS) (r : Int32 × jS), L_Mod_recover_46 n x12 s13 = some r → J G m_Mod_recover 3 0 0 P 70 [(0, .ref (ad 0)), (1, .int p0), (2, .int r.1)] [] (mkR ad G r.2) 0 0 → J G m_Mod_recover 3 0 0 P 46 [(0, .ref (ad 0)), (1, .int p0), (2, .int x12)] [] (mkR ad G s13) 0 0 := by
  intro n
  induction n with
  | zero =>
    intro x12 s13 r H
    cases (show none = some r from H)
  | succ n ih =>
    intro x12 s13 r H kx
    have H : (
    if 7 ≤ x12 then
      some (x12, s13)
    else
      if jin x12 7 then
      if jin x12 7 then
      jlet (va_up s13 38 (upd (s13 38) x12.toNatClampNeg (s13 36 x12.toNatClampNeg))) fun s16 =>
      jlet (x12 + 1) fun x19 =>
      L_Mod_recover_46 n x19 s16
      else none
      else none) = some r := H
    refine j_iload_n (pc := 46) 2 (jd k_Mod_recover 24 rfl) rfl ?_
    refine j_bipush (pc := 47) (v := 7) (jd k_Mod_recover 25 rfl) (by decide) ?_
    refine j_icmp_ge (pc := 49) (tgt := 70) (jd k_Mod_recover 26 rfl) rfl (fun h14 => ?_) (fun h14 => ?_)
    · rw [if_pos h14] at H
      cases H
      exact kx
    · rw [if_neg h14] at H
      refine j_aload_n (pc := 52) 0 (jd k_Mod_recover 27 rfl) rfl ?_
      refine j_get (pc := 53) (fs := flR ad s13) (v := .ref (ad 21)) fl_Mod_70_10 0 (jd k_Mod_recover 28 rfl) rfl rfl ?_
      refine j_iload_n (pc := 56) 2 (jd k_Mod_recover 29 rfl) rfl ?_
      refine j_aload_n (pc := 57) 0 (jd k_Mod_recover 30 rfl) rfl ?_
      refine j_get (pc := 58) (fs := flR ad s13) (v := .ref (ad 19)) fl_Mod_64_10 0 (jd k_Mod_recover 31 rfl) rfl rfl ?_
      refine j_iload_n (pc := 61) 2 (jd k_Mod_recover 32 rfl) rfl ?_
      obtain ⟨h15, H⟩ := ochk H
      refine j_iald (pc := 62) (f := s13 36) 19 (jd k_Mod_recover 33 rfl) rfl (jin.vp h15) ?_
      obtain ⟨h18, H⟩ := ochk H
      obtain ⟨s16, e17, H⟩ := olet H
      refine j_iast (pc := 63) (f := s13 38) 21 (jd k_Mod_recover 34 rfl) rfl (jin.vp h18) ((waR_38 ad G s13 _).trans (congrArg (mkR ad G) e17)) ?_
      obtain ⟨x19, e20, H⟩ := olet H
      refine j_iinc (pc := 64) (lv' := [(0, .ref (ad 0)), (1, .int p0), (2, .int x19)]) 2 (jd k_Mod_recover 35 rfl) rfl e20 rfl (Nat.le_of_ble_eq_true rfl) rfl ?_
      refine j_goto (pc := 67) (tgt := 46) (jd k_Mod_recover 36 rfl) rfl ?_
      exact ih x19 s16 _ H kx

set_option maxRecDepth 20000 in
theorem c_Mod_recover (ad : Nat → Nat) (G : jG) (p0 : Int32) (s : jS) (r : Int32 × jS) (H : f_Mod_recover p0 s = some r) : jCon G m_Mod_recover y_Mod_recover 3 0 0 [.ref (ad 0), .int p0] (mkR ad G s) (jEq (some (.int r.1)) (mkR ad G r.2)) := by
  refine jCon.of (by decide +kernel) rfl rfl rfl (Nat.le_of_ble_eq_true rfl) rfl ?_
  have H : (
  Option.bind (α := Int32) (
    if (s 15 0) = 0 then
      some 1
    else
      if ¬ (s 16 0) = 0 then
        Option.bind (f_Mod_enough p0 s) fun x3 =>
        if ¬ x3 = 0 then
          some 0
        else
          some 2
      else
        some 1) fun x6 =>
  jlet (va_up s 0 (fun _ => x6)) fun s9 =>
  if (s9 0 0) ≤ 0 then
    Option.bind (L_Mod_recover_46 jF 0 s9) fun (x21, s22) =>
    Option.bind (f_Mod_atZero p0 s22) fun x24 =>
    some (x24, s22)
  else
    some (0, s9)) = some r := H
  generalize hP9 : jEq (some (.int r.1)) (mkR ad G r.2) = P
  refine j_aload_n (pc := 0) 0 (jd k_Mod_recover 0 rfl) rfl ?_
  refine j_aload_n (pc := 1) 0 (jd k_Mod_recover 1 rfl) rfl ?_
  refine j_get (pc := 2) (fs := flR ad s) (v := .int (s 15 0)) fl_Mod_203_10 0 (jd k_Mod_recover 2 rfl) rfl rfl ?_
  obtain ⟨x6, h7, H⟩ := obnd H
  have K8 : J G m_Mod_recover 3 0 0 P 32 [(0, .ref (ad 0)), (1, .int p0)] [.int x6, .ref (ad 0)] (mkR ad G s) 0 0 := by
    obtain ⟨s9, e10, H⟩ := olet H
    refine j_put (pc := 32) (fs := flR ad s) (fp_Mod_170_10 _) 0 (jd k_Mod_recover 16 rfl) rfl rfl rfl (Nat.le_of_ble_eq_true rfl) ((wpR_0 ad G s _).trans (congrArg (mkR ad G) e10)) ?_
    refine j_aload_n (pc := 35) 0 (jd k_Mod_recover 17 rfl) rfl ?_
    refine j_get (pc := 36) (fs := flR ad s9) (v := .int (s9 0 0)) fl_Mod_170_10 0 (jd k_Mod_recover 18 rfl) rfl rfl ?_
    refine j_if_le (pc := 39) (tgt := 44) (jd k_Mod_recover 19 rfl) rfl (fun h11 => ?_) (fun h11 => ?_)
    · rw [if_pos h11] at H
      refine j_iconst (pc := 44) (v := 0) (jd k_Mod_recover 22 rfl) (by decide) ?_
      refine j_istore_n (pc := 45) (lv' := [(0, .ref (ad 0)), (1, .int p0), (2, .int 0)]) (jd k_Mod_recover 23 rfl) rfl (Nat.le_of_ble_eq_true rfl) rfl ?_
      obtain ⟨⟨x21, s22⟩, h23, H⟩ := obnd H
      try dsimp only at H
      refine lp_Mod_recover_46 p0 jF 0 s9 _ h23 ?_
      refine j_pick (lv' := [(0, .ref (ad 0)), (1, .int p0)]) [0, 1] rfl ?_
      refine j_aload_n (pc := 70) 0 (jd k_Mod_recover 37 rfl) rfl ?_
      refine j_iload_n (pc := 71) 1 (jd k_Mod_recover 38 rfl) rfl ?_
      obtain ⟨x24, h25, H⟩ := obnd H
      refine jc_V (pc := 72) (st := []) (c_Mod_atZero ad G p0 s22 _ h25) L0_Mod_atZero w1418 w1420 w55 0 rfl rfl (jd k_Mod_recover 39 rfl) rfl (Nat.le_of_ble_eq_true rfl) (by decide) (Nat.le_refl _) (Nat.le_refl _) rfl rfl ?_
      cases H
      subst hP9
      exact j_iret (pc := 75) (jd k_Mod_recover 40 rfl) rfl rfl ⟨rfl, rfl⟩
    · rw [if_neg h11] at H
      refine j_iconst (pc := 42) (v := 0) (jd k_Mod_recover 20 rfl) (by decide) ?_
      cases H
      subst hP9
      exact j_iret (pc := 43) (jd k_Mod_recover 21 rfl) rfl rfl ⟨rfl, rfl⟩
  have H := h7
  refine j_if_eq (pc := 5) (tgt := 15) (jd k_Mod_recover 3 rfl) rfl (fun h1 => ?_) (fun h1 => ?_)
  · rw [if_pos h1] at H
    refine j_iconst (pc := 15) (v := 1) (jd k_Mod_recover 7 rfl) (by decide) ?_
    refine j_goto (pc := 16) (tgt := 32) (jd k_Mod_recover 8 rfl) rfl ?_
    cases H
    exact K8
  · rw [if_neg h1] at H
    refine j_aload_n (pc := 8) 0 (jd k_Mod_recover 4 rfl) rfl ?_
    refine j_get (pc := 9) (fs := flR ad s) (v := .int (s 16 0)) fl_Mod_225_10 0 (jd k_Mod_recover 5 rfl) rfl rfl ?_
    refine j_if_ne (pc := 12) (tgt := 19) (jd k_Mod_recover 6 rfl) rfl (fun h2 => ?_) (fun h2 => ?_)
    · rw [if_pos h2] at H
      refine j_aload_n (pc := 19) 0 (jd k_Mod_recover 9 rfl) rfl ?_
      refine j_iload_n (pc := 20) 1 (jd k_Mod_recover 10 rfl) rfl ?_
      obtain ⟨x3, h4, H⟩ := obnd H
      refine jc_V (pc := 21) (st := [.ref (ad 0)]) (c_Mod_enough ad G p0 s _ h4) L0_Mod_enough w1489 w1491 w61 0 rfl rfl (jd k_Mod_recover 11 rfl) rfl (Nat.le_of_ble_eq_true rfl) (by decide) (Nat.le_refl _) (Nat.le_refl _) rfl rfl ?_
      refine j_if_ne (pc := 24) (tgt := 31) (jd k_Mod_recover 12 rfl) rfl (fun h5 => ?_) (fun h5 => ?_)
      · rw [if_pos h5] at H
        refine j_iconst (pc := 31) (v := 0) (jd k_Mod_recover 15 rfl) (by decide) ?_
        cases H
        exact K8
      · rw [if_neg (not_not_intro h5)] at H
        refine j_iconst (pc := 27) (v := 2) (jd k_Mod_recover 13 rfl) (by decide) ?_
        refine j_goto (pc := 28) (tgt := 32) (jd k_Mod_recover 14 rfl) rfl ?_
        cases H
        exact K8
    · rw [if_neg (not_not_intro h2)] at H
      refine j_iconst (pc := 15) (v := 1) (jd k_Mod_recover 7 rfl) (by decide) ?_
      refine j_goto (pc := 16) (tgt := 32) (jd k_Mod_recover 8 rfl) rfl ?_
      cases H
      exact K8

set_option maxRecDepth 20000 in
theorem lp_Mod_refresh_43 {ad : Nat → Nat} {G : jG} {P : jR → va_W → Prop} (x9 : Int32) : ∀ (n : Nat) (x12 : Int32) (s13 : jS) (r : Int32 × jS), L_Mod_refresh_43 x9 n x12 s13 = some r → J G m_Mod_refresh 2 0 0 P 123 [(0, .ref (ad 0)), (1, .int x9), (2, .int r.1)] [] (mkR ad G r.2) 0 0 → J G m_Mod_refresh 2 0 0 P 43 [(0, .ref (ad 0)), (1, .int x9), (2, .int x12)] [] (mkR ad G s13) 0 0 := by
  intro n
  induction n with
  | zero =>
    intro x12 s13 r H
    cases (show none = some r from H)
  | succ n ih =>
    intro x12 s13 r H kx
    have H : (
    if (s13 11 0) < x12 then
      some (x12, s13)
    else
      Option.bind (f_Mod_works x12 8 s13) fun x15 =>
      Option.bind (α := jS) (
        if ¬ x15 = 0 then
          Option.bind (f_Mod_f x12 x9 s13) fun x18 =>
          if jin ((7 * x12) - 7) 49 then
          if ¬ (s13 10 0) = 0 then
          jlet (jrem ((x18 - (s13 19 ((7 * x12) - 7).toNatClampNeg)) + (s13 10 0)) (s13 10 0)) fun x22 =>
          if jin (x9 - 1) 7 then
          if ¬ (s13 10 0) = 0 then
          if jin (x9 - 1) 7 then
          jlet (va_up s13 36 (upd (s13 36) (x9 - 1).toNatClampNeg (jrem ((s13 36 (x9 - 1).toNatClampNeg) + x22) (s13 10 0)))) fun s25 =>
          some s25
          else none
          else none
          else none
          else none
          else none
        else
          some s13) fun s29 =>
      jlet (x12 + 1) fun x32 =>
      L_Mod_refresh_43 x9 n x32 s29) = some r := H
    refine j_iload_n (pc := 43) 2 (jd k_Mod_refresh 23 rfl) rfl ?_
    refine j_aload_n (pc := 44) 0 (jd k_Mod_refresh 24 rfl) rfl ?_
    refine j_get (pc := 45) (fs := flR ad s13) (v := .int (s13 11 0)) fl_Mod_207_10 0 (jd k_Mod_refresh 25 rfl) rfl rfl ?_
    refine j_icmp_gt (pc := 48) (tgt := 123) (jd k_Mod_refresh 26 rfl) rfl (fun h14 => ?_) (fun h14 => ?_)
    · rw [if_pos h14] at H
      cases H
      exact kx
    · rw [if_neg h14] at H
      refine j_aload_n (pc := 51) 0 (jd k_Mod_refresh 27 rfl) rfl ?_
      refine j_iload_n (pc := 52) 2 (jd k_Mod_refresh 28 rfl) rfl ?_
      refine j_bipush (pc := 53) (v := 8) (jd k_Mod_refresh 29 rfl) (by decide) ?_
      obtain ⟨x15, h16, H⟩ := obnd H
      refine jc_V (pc := 55) (st := []) (c_Mod_works ad G x12 8 s13 _ h16) L0_Mod_works w1344 w1346 w38 0 rfl rfl (jd k_Mod_refresh 30 rfl) rfl (Nat.le_of_ble_eq_true rfl) (by decide) (Nat.le_refl _) (Nat.le_refl _) rfl rfl ?_
      obtain ⟨s29, h30, H⟩ := obnd H
      have K31 : J G m_Mod_refresh 2 0 0 P 117 [(0, .ref (ad 0)), (1, .int x9), (2, .int x12)] [] (mkR ad G s29) 0 0 := by
        obtain ⟨x32, e33, H⟩ := olet H
        refine j_iinc (pc := 117) (lv' := [(0, .ref (ad 0)), (1, .int x9), (2, .int x32)]) 2 (jd k_Mod_refresh 70 rfl) rfl e33 rfl (Nat.le_of_ble_eq_true rfl) rfl ?_
        refine j_goto (pc := 120) (tgt := 43) (jd k_Mod_refresh 71 rfl) rfl ?_
        exact ih x32 s29 _ H kx
      have H := h30
      refine j_if_ne (pc := 58) (tgt := 64) (jd k_Mod_refresh 31 rfl) rfl (fun h17 => ?_) (fun h17 => ?_)
      · rw [if_pos h17] at H
        refine j_aload_n (pc := 64) 0 (jd k_Mod_refresh 33 rfl) rfl ?_
        refine j_iload_n (pc := 65) 2 (jd k_Mod_refresh 34 rfl) rfl ?_
        refine j_iload_n (pc := 66) 1 (jd k_Mod_refresh 35 rfl) rfl ?_
        obtain ⟨x18, h19, H⟩ := obnd H
        refine jc_V (pc := 67) (st := []) (c_Mod_f ad G x12 x9 s13 _ h19) L0_Mod_f w1368 w1370 w44 0 rfl rfl (jd k_Mod_refresh 36 rfl) rfl (Nat.le_of_ble_eq_true rfl) (by decide) (Nat.le_refl _) (Nat.le_refl _) rfl rfl ?_
        refine j_aload_n (pc := 70) 0 (jd k_Mod_refresh 37 rfl) rfl ?_
        refine j_get (pc := 71) (fs := flR ad s13) (v := .ref (ad 7)) fl_Mod_28_10 0 (jd k_Mod_refresh 38 rfl) rfl rfl ?_
        refine j_bipush (pc := 74) (v := 7) (jd k_Mod_refresh 39 rfl) (by decide) ?_
        refine j_iload_n (pc := 76) 2 (jd k_Mod_refresh 40 rfl) rfl ?_
        refine j_imul (pc := 77) (jd k_Mod_refresh 41 rfl) ?_
        refine j_bipush (pc := 78) (v := 7) (jd k_Mod_refresh 42 rfl) (by decide) ?_
        refine j_isub (pc := 80) (jd k_Mod_refresh 43 rfl) ?_
        obtain ⟨h20, H⟩ := ochk H
        refine j_iald (pc := 81) (f := s13 19) 7 (jd k_Mod_refresh 44 rfl) rfl (jin.vp h20) ?_
        refine j_isub (pc := 82) (jd k_Mod_refresh 45 rfl) ?_
        refine j_aload_n (pc := 83) 0 (jd k_Mod_refresh 46 rfl) rfl ?_
        refine j_get (pc := 84) (fs := flR ad s13) (v := .int (s13 10 0)) fl_Mod_213_10 0 (jd k_Mod_refresh 47 rfl) rfl rfl ?_
        refine j_iadd (pc := 87) (jd k_Mod_refresh 48 rfl) ?_
        refine j_aload_n (pc := 88) 0 (jd k_Mod_refresh 49 rfl) rfl ?_
        refine j_get (pc := 89) (fs := flR ad s13) (v := .int (s13 10 0)) fl_Mod_213_10 0 (jd k_Mod_refresh 50 rfl) rfl rfl ?_
        obtain ⟨h21, H⟩ := ochk H
        refine j_irem (pc := 92) (jd k_Mod_refresh 51 rfl) h21 ?_
        obtain ⟨x22, e28, H⟩ := olet H
        refine j_topi e28 ?_
        refine j_istore_n (pc := 93) (lv' := [(0, .ref (ad 0)), (1, .int x9), (2, .int x12), (3, .int x22)]) (jd k_Mod_refresh 52 rfl) rfl (Nat.le_of_ble_eq_true rfl) rfl ?_
        refine j_aload_n (pc := 94) 0 (jd k_Mod_refresh 53 rfl) rfl ?_
        refine j_get (pc := 95) (fs := flR ad s13) (v := .ref (ad 19)) fl_Mod_64_10 0 (jd k_Mod_refresh 54 rfl) rfl rfl ?_
        refine j_iload_n (pc := 98) 1 (jd k_Mod_refresh 55 rfl) rfl ?_
        refine j_iconst (pc := 99) (v := 1) (jd k_Mod_refresh 56 rfl) (by decide) ?_
        refine j_isub (pc := 100) (jd k_Mod_refresh 57 rfl) ?_
        refine j_aload_n (pc := 101) 0 (jd k_Mod_refresh 58 rfl) rfl ?_
        refine j_get (pc := 102) (fs := flR ad s13) (v := .ref (ad 19)) fl_Mod_64_10 0 (jd k_Mod_refresh 59 rfl) rfl rfl ?_
        refine j_iload_n (pc := 105) 1 (jd k_Mod_refresh 60 rfl) rfl ?_
        refine j_iconst (pc := 106) (v := 1) (jd k_Mod_refresh 61 rfl) (by decide) ?_
        refine j_isub (pc := 107) (jd k_Mod_refresh 62 rfl) ?_
        obtain ⟨h23, H⟩ := ochk H
        refine j_iald (pc := 108) (f := s13 36) 19 (jd k_Mod_refresh 63 rfl) rfl (jin.vp h23) ?_
        refine j_iload_n (pc := 109) 3 (jd k_Mod_refresh 64 rfl) rfl ?_
        refine j_iadd (pc := 110) (jd k_Mod_refresh 65 rfl) ?_
        refine j_aload_n (pc := 111) 0 (jd k_Mod_refresh 66 rfl) rfl ?_
        refine j_get (pc := 112) (fs := flR ad s13) (v := .int (s13 10 0)) fl_Mod_213_10 0 (jd k_Mod_refresh 67 rfl) rfl rfl ?_
        obtain ⟨h24, H⟩ := ochk H
        refine j_irem (pc := 115) (jd k_Mod_refresh 68 rfl) h24 ?_
        obtain ⟨h27, H⟩ := ochk H
        obtain ⟨s25, e26, H⟩ := olet H
        refine j_iast (pc := 116) (f := s13 36) 19 (jd k_Mod_refresh 69 rfl) rfl (jin.vp h27) ((waR_36 ad G s13 _).trans (congrArg (mkR ad G) e26)) ?_
        cases H
        exact j_pick [0, 1, 2] rfl K31
      · rw [if_neg (not_not_intro h17)] at H
        refine j_goto (pc := 61) (tgt := 117) (jd k_Mod_refresh 32 rfl) rfl ?_
        cases H
        exact K31

set_option maxRecDepth 20000 in
theorem lp_Mod_refresh_33 {ad : Nat → Nat} {G : jG} {P : jR → va_W → Prop} : ∀ (n : Nat) (x9 : Int32) (s10 : jS) (r : Int32 × jS), L_Mod_refresh_33 n x9 s10 = some r → J G m_Mod_refresh 2 0 0 P 138 [(0, .ref (ad 0)), (1, .int r.1)] [] (mkR ad G r.2) 0 0 → J G m_Mod_refresh 2 0 0 P 33 [(0, .ref (ad 0)), (1, .int x9)] [] (mkR ad G s10) 0 0 := by
  intro n
  induction n with
  | zero =>
    intro x9 s10 r H
    cases (show none = some r from H)
  | succ n ih =>
    intro x9 s10 r H kx
    have H : (
    if (s10 11 0) < x9 then
      some (x9, s10)
    else
      Option.bind (L_Mod_refresh_43 x9 jF 1 s10) fun (x34, s35) =>
      if jin (x9 - 1) 7 then
      jlet (va_up s35 37 (upd (s35 37) (x9 - 1).toNatClampNeg 0)) fun s37 =>
      jlet (x9 + 1) fun x40 =>
      L_Mod_refresh_33 n x40 s37
      else none) = some r := H
    refine j_iload_n (pc := 33) 1 (jd k_Mod_refresh 17 rfl) rfl ?_
    refine j_aload_n (pc := 34) 0 (jd k_Mod_refresh 18 rfl) rfl ?_
    refine j_get (pc := 35) (fs := flR ad s10) (v := .int (s10 11 0)) fl_Mod_207_10 0 (jd k_Mod_refresh 19 rfl) rfl rfl ?_
    refine j_icmp_gt (pc := 38) (tgt := 138) (jd k_Mod_refresh 20 rfl) rfl (fun h11 => ?_) (fun h11 => ?_)
    · rw [if_pos h11] at H
      cases H
      exact kx
    · rw [if_neg h11] at H
      refine j_iconst (pc := 41) (v := 1) (jd k_Mod_refresh 21 rfl) (by decide) ?_
      refine j_istore_n (pc := 42) (lv' := [(0, .ref (ad 0)), (1, .int x9), (2, .int 1)]) (jd k_Mod_refresh 22 rfl) rfl (Nat.le_of_ble_eq_true rfl) rfl ?_
      obtain ⟨⟨x34, s35⟩, h36, H⟩ := obnd H
      try dsimp only at H
      refine lp_Mod_refresh_43 x9 jF 1 s10 _ h36 ?_
      refine j_pick (lv' := [(0, .ref (ad 0)), (1, .int x9)]) [0, 1] rfl ?_
      refine j_aload_n (pc := 123) 0 (jd k_Mod_refresh 72 rfl) rfl ?_
      refine j_get (pc := 124) (fs := flR ad s35) (v := .ref (ad 20)) fl_Mod_67_10 0 (jd k_Mod_refresh 73 rfl) rfl rfl ?_
      refine j_iload_n (pc := 127) 1 (jd k_Mod_refresh 74 rfl) rfl ?_
      refine j_iconst (pc := 128) (v := 1) (jd k_Mod_refresh 75 rfl) (by decide) ?_
      refine j_isub (pc := 129) (jd k_Mod_refresh 76 rfl) ?_
      refine j_iconst (pc := 130) (v := 0) (jd k_Mod_refresh 77 rfl) (by decide) ?_
      obtain ⟨h39, H⟩ := ochk H
      obtain ⟨s37, e38, H⟩ := olet H
      refine j_iast (pc := 131) (f := s35 37) 20 (jd k_Mod_refresh 78 rfl) rfl (jin.vp h39) ((waR_37 ad G s35 _).trans (congrArg (mkR ad G) e38)) ?_
      obtain ⟨x40, e41, H⟩ := olet H
      refine j_iinc (pc := 132) (lv' := [(0, .ref (ad 0)), (1, .int x40)]) 1 (jd k_Mod_refresh 79 rfl) rfl e41 rfl (Nat.le_of_ble_eq_true rfl) rfl ?_
      refine j_goto (pc := 135) (tgt := 33) (jd k_Mod_refresh 80 rfl) rfl ?_
      exact ih x40 s37 _ H kx

set_option maxRecDepth 20000 in
theorem c_Mod_refresh (ad : Nat → Nat) (G : jG) (s : jS) (r : jS) (H : f_Mod_refresh s = some r) : jCon G m_Mod_refresh y_Mod_refresh 2 0 0 [.ref (ad 0)] (mkR ad G s) (jEq none (mkR ad G r)) := by
  refine jCon.of (by decide +kernel) rfl rfl rfl (Nat.le_of_ble_eq_true rfl) rfl ?_
  have H : (
  Option.bind (α := Int32) (
    if (s 15 0) = 0 then
      some 1
    else
      if ¬ (s 16 0) = 0 then
        some 0
      else
        some 1) fun x3 =>
  jlet (va_up s 0 (fun _ => x3)) fun s6 =>
  if (s6 0 0) ≤ 0 then
    Option.bind (L_Mod_refresh_33 jF 1 s6) fun (x42, s43) =>
    Option.bind (f_Mod_forget s43) fun s45 =>
    some s45
  else
    some s6) = some r := H
  generalize hP9 : jEq none (mkR ad G r) = P
  refine j_aload_n (pc := 0) 0 (jd k_Mod_refresh 0 rfl) rfl ?_
  refine j_aload_n (pc := 1) 0 (jd k_Mod_refresh 1 rfl) rfl ?_
  refine j_get (pc := 2) (fs := flR ad s) (v := .int (s 15 0)) fl_Mod_203_10 0 (jd k_Mod_refresh 2 rfl) rfl rfl ?_
  obtain ⟨x3, h4, H⟩ := obnd H
  have K5 : J G m_Mod_refresh 2 0 0 P 20 [(0, .ref (ad 0))] [.int x3, .ref (ad 0)] (mkR ad G s) 0 0 := by
    obtain ⟨s6, e7, H⟩ := olet H
    refine j_put (pc := 20) (fs := flR ad s) (fp_Mod_170_10 _) 0 (jd k_Mod_refresh 10 rfl) rfl rfl rfl (Nat.le_of_ble_eq_true rfl) ((wpR_0 ad G s _).trans (congrArg (mkR ad G) e7)) ?_
    refine j_aload_n (pc := 23) 0 (jd k_Mod_refresh 11 rfl) rfl ?_
    refine j_get (pc := 24) (fs := flR ad s6) (v := .int (s6 0 0)) fl_Mod_170_10 0 (jd k_Mod_refresh 12 rfl) rfl rfl ?_
    refine j_if_le (pc := 27) (tgt := 31) (jd k_Mod_refresh 13 rfl) rfl (fun h8 => ?_) (fun h8 => ?_)
    · rw [if_pos h8] at H
      refine j_iconst (pc := 31) (v := 1) (jd k_Mod_refresh 15 rfl) (by decide) ?_
      refine j_istore_n (pc := 32) (lv' := [(0, .ref (ad 0)), (1, .int 1)]) (jd k_Mod_refresh 16 rfl) rfl (Nat.le_of_ble_eq_true rfl) rfl ?_
      obtain ⟨⟨x42, s43⟩, h44, H⟩ := obnd H
      try dsimp only at H
      refine lp_Mod_refresh_33  jF 1 s6 _ h44 ?_
      refine j_pick (lv' := [(0, .ref (ad 0))]) [0] rfl ?_
      refine j_aload_n (pc := 138) 0 (jd k_Mod_refresh 81 rfl) rfl ?_
      obtain ⟨s45, h46, H⟩ := obnd H
      refine jc_V (pc := 139) (st := []) (c_Mod_forget ad G s43 _ h46) L0_Mod_forget w1316 w1318 w35 0 rfl rfl (jd k_Mod_refresh 82 rfl) rfl (Nat.le_of_ble_eq_true rfl) (by decide) (Nat.le_refl _) (Nat.le_refl _) rfl rfl ?_
      cases H
      subst hP9
      exact j_vret (pc := 142) (jd k_Mod_refresh 83 rfl) rfl ⟨rfl, rfl⟩
    · rw [if_neg h8] at H
      cases H
      subst hP9
      exact j_vret (pc := 30) (jd k_Mod_refresh 14 rfl) rfl ⟨rfl, rfl⟩
  have H := h4
  refine j_if_eq (pc := 5) (tgt := 15) (jd k_Mod_refresh 3 rfl) rfl (fun h1 => ?_) (fun h1 => ?_)
  · rw [if_pos h1] at H
    refine j_iconst (pc := 15) (v := 1) (jd k_Mod_refresh 7 rfl) (by decide) ?_
    refine j_goto (pc := 16) (tgt := 20) (jd k_Mod_refresh 8 rfl) rfl ?_
    cases H
    exact K5
  · rw [if_neg h1] at H
    refine j_aload_n (pc := 8) 0 (jd k_Mod_refresh 4 rfl) rfl ?_
    refine j_get (pc := 9) (fs := flR ad s) (v := .int (s 16 0)) fl_Mod_225_10 0 (jd k_Mod_refresh 5 rfl) rfl rfl ?_
    refine j_if_ne (pc := 12) (tgt := 19) (jd k_Mod_refresh 6 rfl) rfl (fun h2 => ?_) (fun h2 => ?_)
    · rw [if_pos h2] at H
      refine j_iconst (pc := 19) (v := 0) (jd k_Mod_refresh 9 rfl) (by decide) ?_
      cases H
      exact K5
    · rw [if_neg (not_not_intro h2)] at H
      refine j_iconst (pc := 15) (v := 1) (jd k_Mod_refresh 7 rfl) (by decide) ?_
      refine j_goto (pc := 16) (tgt := 20) (jd k_Mod_refresh 8 rfl) rfl ?_
      cases H
      exact K5

set_option maxRecDepth 20000 in
theorem lp_Mod_handOn_230 {ad : Nat → Nat} {G : jG} {P : jR → va_W → Prop} : ∀ (n : Nat) (x70 : Int32) (s71 : jS) (r : Int32 × jS), L_Mod_handOn_230 n x70 s71 = some r → J G m_Mod_handOn 3 0 0 P 278 [(0, .ref (ad 0)), (4, .int r.1)] [] (mkR ad G r.2) 0 0 → J G m_Mod_handOn 3 0 0 P 230 [(0, .ref (ad 0)), (4, .int x70)] [] (mkR ad G s71) 0 0 := by
  intro n
  induction n with
  | zero =>
    intro x70 s71 r H
    cases (show none = some r from H)
  | succ n ih =>
    intro x70 s71 r H kx
    have H : (
    if 7 ≤ x70 then
      some (x70, s71)
    else
      Option.bind (α := Int32) (
        if (s71 11 0) ≤ x70 then
          some 0
        else
          if jin x70 7 then
          some (s71 38 x70.toNatClampNeg)
          else none) fun x75 =>
      if jin x70 7 then
      jlet (va_up s71 36 (upd (s71 36) x70.toNatClampNeg x75)) fun s78 =>
      if jin x70 7 then
      jlet (va_up s78 37 (upd (s78 37) x70.toNatClampNeg 0)) fun s81 =>
      jlet (x70 + 1) fun x84 =>
      L_Mod_handOn_230 n x84 s81
      else none
      else none) = some r := H
    refine j_iload (pc := 230) 1 (jd k_Mod_handOn 123 rfl) rfl ?_
    refine j_bipush (pc := 232) (v := 7) (jd k_Mod_handOn 124 rfl) (by decide) ?_
    refine j_icmp_ge (pc := 234) (tgt := 278) (jd k_Mod_handOn 125 rfl) rfl (fun h72 => ?_) (fun h72 => ?_)
    · rw [if_pos h72] at H
      cases H
      exact kx
    · rw [if_neg h72] at H
      refine j_aload_n (pc := 237) 0 (jd k_Mod_handOn 126 rfl) rfl ?_
      refine j_get (pc := 238) (fs := flR ad s71) (v := .ref (ad 19)) fl_Mod_64_10 0 (jd k_Mod_handOn 127 rfl) rfl rfl ?_
      refine j_iload (pc := 241) 1 (jd k_Mod_handOn 128 rfl) rfl ?_
      refine j_iload (pc := 243) 1 (jd k_Mod_handOn 129 rfl) rfl ?_
      refine j_aload_n (pc := 245) 0 (jd k_Mod_handOn 130 rfl) rfl ?_
      refine j_get (pc := 246) (fs := flR ad s71) (v := .int (s71 11 0)) fl_Mod_207_10 0 (jd k_Mod_handOn 131 rfl) rfl rfl ?_
      obtain ⟨x75, h76, H⟩ := obnd H
      have K77 : J G m_Mod_handOn 3 0 0 P 263 [(0, .ref (ad 0)), (4, .int x70)] [.int x75, .int x70, .ref (ad 19)] (mkR ad G s71) 0 0 := by
        obtain ⟨h80, H⟩ := ochk H
        obtain ⟨s78, e79, H⟩ := olet H
        refine j_iast (pc := 263) (f := s71 36) 19 (jd k_Mod_handOn 139 rfl) rfl (jin.vp h80) ((waR_36 ad G s71 _).trans (congrArg (mkR ad G) e79)) ?_
        refine j_aload_n (pc := 264) 0 (jd k_Mod_handOn 140 rfl) rfl ?_
        refine j_get (pc := 265) (fs := flR ad s78) (v := .ref (ad 20)) fl_Mod_67_10 0 (jd k_Mod_handOn 141 rfl) rfl rfl ?_
        refine j_iload (pc := 268) 1 (jd k_Mod_handOn 142 rfl) rfl ?_
        refine j_iconst (pc := 270) (v := 0) (jd k_Mod_handOn 143 rfl) (by decide) ?_
        obtain ⟨h83, H⟩ := ochk H
        obtain ⟨s81, e82, H⟩ := olet H
        refine j_iast (pc := 271) (f := s78 37) 20 (jd k_Mod_handOn 144 rfl) rfl (jin.vp h83) ((waR_37 ad G s78 _).trans (congrArg (mkR ad G) e82)) ?_
        obtain ⟨x84, e85, H⟩ := olet H
        refine j_iinc (pc := 272) (lv' := [(0, .ref (ad 0)), (4, .int x84)]) 1 (jd k_Mod_handOn 145 rfl) rfl e85 rfl (Nat.le_of_ble_eq_true rfl) rfl ?_
        refine j_goto (pc := 275) (tgt := 230) (jd k_Mod_handOn 146 rfl) rfl ?_
        exact ih x84 s81 _ H kx
      have H := h76
      refine j_icmp_ge (pc := 249) (tgt := 262) (jd k_Mod_handOn 132 rfl) rfl (fun h73 => ?_) (fun h73 => ?_)
      · rw [if_pos h73] at H
        refine j_iconst (pc := 262) (v := 0) (jd k_Mod_handOn 138 rfl) (by decide) ?_
        cases H
        exact K77
      · rw [if_neg h73] at H
        refine j_aload_n (pc := 252) 0 (jd k_Mod_handOn 133 rfl) rfl ?_
        refine j_get (pc := 253) (fs := flR ad s71) (v := .ref (ad 21)) fl_Mod_70_10 0 (jd k_Mod_handOn 134 rfl) rfl rfl ?_
        refine j_iload (pc := 256) 1 (jd k_Mod_handOn 135 rfl) rfl ?_
        obtain ⟨h74, H⟩ := ochk H
        refine j_iald (pc := 258) (f := s71 38) 21 (jd k_Mod_handOn 136 rfl) rfl (jin.vp h74) ?_
        refine j_goto (pc := 259) (tgt := 263) (jd k_Mod_handOn 137 rfl) rfl ?_
        cases H
        exact K77

set_option maxRecDepth 20000 in
theorem lp_Mod_handOn_114 {ad : Nat → Nat} {G : jG} {P : jR → va_W → Prop} (p0 : Int32) (p1 : Int32) (p2 : Int32) (x16 : Int32) (s17 : jS) (x19 : Int32) (x20 : Int32) : ∀ (n : Nat) (x27 : Int32) (x28 : Int32) (r : Int32 × Int32), L_Mod_handOn_114 p1 x16 s17 x20 n x27 x28 = some r → J G m_Mod_handOn 3 0 0 P 170 [(0, .ref (ad 0)), (1, .int p0), (2, .int p1), (3, .int p2), (4, .int x16), (5, .int x19), (6, .int x20), (7, .int r.1), (8, .int r.2)] [] (mkR ad G s17) 0 0 → J G m_Mod_handOn 3 0 0 P 114 [(0, .ref (ad 0)), (1, .int p0), (2, .int p1), (3, .int p2), (4, .int x16), (5, .int x19), (6, .int x20), (7, .int x27), (8, .int x28)] [] (mkR ad G s17) 0 0 := by
  intro n
  induction n with
  | zero =>
    intro x27 x28 r H
    cases (show none = some r from H)
  | succ n ih =>
    intro x27 x28 r H kx
    have H : (
    if p1 ≤ x28 then
      some (x27, x28)
    else
      if (s17 12 0) ≤ x28 then
        some (x27, x28)
      else
        if jin (((7 * x20) - 7) + x28) 49 then
        Option.bind (f_Mod_power x16 x28 s17) fun x32 =>
        if ¬ (s17 10 0) = 0 then
        jlet (jrem (x27 + ((s17 19 (((7 * x20) - 7) + x28).toNatClampNeg) * x32)) (s17 10 0)) fun x35 =>
        jlet (x28 + 1) fun x36 =>
        L_Mod_handOn_114 p1 x16 s17 x20 n x35 x36
        else none
        else none) = some r := H
    refine j_iload (pc := 114) 8 (jd k_Mod_handOn 60 rfl) rfl ?_
    refine j_iload_n (pc := 116) 2 (jd k_Mod_handOn 61 rfl) rfl ?_
    refine j_icmp_ge (pc := 117) (tgt := 170) (jd k_Mod_handOn 62 rfl) rfl (fun h29 => ?_) (fun h29 => ?_)
    · rw [if_pos h29] at H
      cases H
      exact kx
    · rw [if_neg h29] at H
      refine j_iload (pc := 120) 8 (jd k_Mod_handOn 63 rfl) rfl ?_
      refine j_aload_n (pc := 122) 0 (jd k_Mod_handOn 64 rfl) rfl ?_
      refine j_get (pc := 123) (fs := flR ad s17) (v := .int (s17 12 0)) fl_Mod_216_10 0 (jd k_Mod_handOn 65 rfl) rfl rfl ?_
      refine j_icmp_ge (pc := 126) (tgt := 170) (jd k_Mod_handOn 66 rfl) rfl (fun h30 => ?_) (fun h30 => ?_)
      · rw [if_pos h30] at H
        cases H
        exact kx
      · rw [if_neg h30] at H
        refine j_iload (pc := 129) 7 (jd k_Mod_handOn 67 rfl) rfl ?_
        refine j_aload_n (pc := 131) 0 (jd k_Mod_handOn 68 rfl) rfl ?_
        refine j_get (pc := 132) (fs := flR ad s17) (v := .ref (ad 7)) fl_Mod_28_10 0 (jd k_Mod_handOn 69 rfl) rfl rfl ?_
        refine j_bipush (pc := 135) (v := 7) (jd k_Mod_handOn 70 rfl) (by decide) ?_
        refine j_iload (pc := 137) 6 (jd k_Mod_handOn 71 rfl) rfl ?_
        refine j_imul (pc := 139) (jd k_Mod_handOn 72 rfl) ?_
        refine j_bipush (pc := 140) (v := 7) (jd k_Mod_handOn 73 rfl) (by decide) ?_
        refine j_isub (pc := 142) (jd k_Mod_handOn 74 rfl) ?_
        refine j_iload (pc := 143) 8 (jd k_Mod_handOn 75 rfl) rfl ?_
        refine j_iadd (pc := 145) (jd k_Mod_handOn 76 rfl) ?_
        obtain ⟨h31, H⟩ := ochk H
        refine j_iald (pc := 146) (f := s17 19) 7 (jd k_Mod_handOn 77 rfl) rfl (jin.vp h31) ?_
        refine j_aload_n (pc := 147) 0 (jd k_Mod_handOn 78 rfl) rfl ?_
        refine j_iload (pc := 148) 4 (jd k_Mod_handOn 79 rfl) rfl ?_
        refine j_iload (pc := 150) 8 (jd k_Mod_handOn 80 rfl) rfl ?_
        obtain ⟨x32, h33, H⟩ := obnd H
        refine jc_V (pc := 152) (st := [.int (s17 19 (((7 * x20) - 7) + x28).toNatClampNeg), .int x27]) (c_Mod_power ad G x16 x28 s17 _ h33) L0_Mod_power w1372 w1374 w45 0 rfl rfl (jd k_Mod_handOn 81 rfl) rfl (Nat.le_of_ble_eq_true rfl) (by decide) (Nat.le_refl _) (Nat.le_refl _) rfl rfl ?_
        refine j_imul (pc := 155) (jd k_Mod_handOn 82 rfl) ?_
        refine j_iadd (pc := 156) (jd k_Mod_handOn 83 rfl) ?_
        refine j_aload_n (pc := 157) 0 (jd k_Mod_handOn 84 rfl) rfl ?_
        refine j_get (pc := 158) (fs := flR ad s17) (v := .int (s17 10 0)) fl_Mod_213_10 0 (jd k_Mod_handOn 85 rfl) rfl rfl ?_
        obtain ⟨h34, H⟩ := ochk H
        refine j_irem (pc := 161) (jd k_Mod_handOn 86 rfl) h34 ?_
        obtain ⟨x35, e38, H⟩ := olet H
        refine j_topi e38 ?_
        refine j_istore (pc := 162) (lv' := [(0, .ref (ad 0)), (1, .int p0), (2, .int p1), (3, .int p2), (4, .int x16), (5, .int x19), (6, .int x20), (7, .int x35), (8, .int x28)]) (jd k_Mod_handOn 87 rfl) rfl (Nat.le_of_ble_eq_true rfl) rfl ?_
        obtain ⟨x36, e37, H⟩ := olet H
        refine j_iinc (pc := 164) (lv' := [(0, .ref (ad 0)), (1, .int p0), (2, .int p1), (3, .int p2), (4, .int x16), (5, .int x19), (6, .int x20), (7, .int x35), (8, .int x36)]) 8 (jd k_Mod_handOn 88 rfl) rfl e37 rfl (Nat.le_of_ble_eq_true rfl) rfl ?_
        refine j_goto (pc := 167) (tgt := 114) (jd k_Mod_handOn 89 rfl) rfl ?_
        exact ih x35 x36 _ H kx

set_option maxRecDepth 20000 in
theorem lp_Mod_handOn_79 {ad : Nat → Nat} {G : jG} {P : jR → va_W → Prop} (p0 : Int32) (p1 : Int32) (p2 : Int32) (x16 : Int32) (s17 : jS) : ∀ (n : Nat) (x19 : Int32) (x20 : Int32) (r : Int32 × Int32), L_Mod_handOn_79 p0 p1 x16 s17 n x19 x20 = some r → J G m_Mod_handOn 3 0 0 P 196 [(0, .ref (ad 0)), (1, .int p0), (2, .int p1), (3, .int p2), (4, .int x16), (5, .int r.1), (6, .int r.2)] [] (mkR ad G s17) 0 0 → J G m_Mod_handOn 3 0 0 P 79 [(0, .ref (ad 0)), (1, .int p0), (2, .int p1), (3, .int p2), (4, .int x16), (5, .int x19), (6, .int x20)] [] (mkR ad G s17) 0 0 := by
  intro n
  induction n with
  | zero =>
    intro x19 x20 r H
    cases (show none = some r from H)
  | succ n ih =>
    intro x19 x20 r H kx
    have H : (
    if (s17 11 0) < x20 then
      some (x19, x20)
    else
      Option.bind (f_Mod_in p0 x20) fun x22 =>
      Option.bind (α := Int32) (
        if ¬ x22 = 0 then
          if jin (x20 - 1) 7 then
          jlet (s17 36 (x20 - 1).toNatClampNeg) fun x26 =>
          Option.bind (L_Mod_handOn_114 p1 x16 s17 x20 jF x26 1) fun (x39, x40) =>
          Option.bind (f_Mod_weight p0 x20 s17) fun x42 =>
          if ¬ (s17 10 0) = 0 then
          jlet (jrem (x19 + (x42 * x39)) (s17 10 0)) fun x45 =>
          some x45
          else none
          else none
        else
          some x19) fun x48 =>
      jlet (x20 + 1) fun x51 =>
      L_Mod_handOn_79 p0 p1 x16 s17 n x48 x51) = some r := H
    refine j_iload (pc := 79) 6 (jd k_Mod_handOn 42 rfl) rfl ?_
    refine j_aload_n (pc := 81) 0 (jd k_Mod_handOn 43 rfl) rfl ?_
    refine j_get (pc := 82) (fs := flR ad s17) (v := .int (s17 11 0)) fl_Mod_207_10 0 (jd k_Mod_handOn 44 rfl) rfl rfl ?_
    refine j_icmp_gt (pc := 85) (tgt := 196) (jd k_Mod_handOn 45 rfl) rfl (fun h21 => ?_) (fun h21 => ?_)
    · rw [if_pos h21] at H
      cases H
      exact kx
    · rw [if_neg h21] at H
      refine j_iload_n (pc := 88) 1 (jd k_Mod_handOn 46 rfl) rfl ?_
      refine j_iload (pc := 89) 6 (jd k_Mod_handOn 47 rfl) rfl ?_
      obtain ⟨x22, h23, H⟩ := obnd H
      refine jc_S (pc := 91) (st := []) (c_Mod_in G _ p0 x20 _ h23) L0_Mod_in w1384 w1385 (jd k_Mod_handOn 48 rfl) rfl (Nat.le_of_ble_eq_true rfl) (by decide) (Nat.le_refl _) (Nat.le_refl _) rfl rfl ?_
      obtain ⟨x48, h49, H⟩ := obnd H
      have K50 : J G m_Mod_handOn 3 0 0 P 190 [(0, .ref (ad 0)), (1, .int p0), (2, .int p1), (3, .int p2), (4, .int x16), (5, .int x48), (6, .int x20)] [] (mkR ad G s17) 0 0 := by
        obtain ⟨x51, e52, H⟩ := olet H
        refine j_iinc (pc := 190) (lv' := [(0, .ref (ad 0)), (1, .int p0), (2, .int p1), (3, .int p2), (4, .int x16), (5, .int x48), (6, .int x51)]) 6 (jd k_Mod_handOn 102 rfl) rfl e52 rfl (Nat.le_of_ble_eq_true rfl) rfl ?_
        refine j_goto (pc := 193) (tgt := 79) (jd k_Mod_handOn 103 rfl) rfl ?_
        exact ih x48 x51 _ H kx
      have H := h49
      refine j_if_ne (pc := 94) (tgt := 100) (jd k_Mod_handOn 49 rfl) rfl (fun h24 => ?_) (fun h24 => ?_)
      · rw [if_pos h24] at H
        refine j_aload_n (pc := 100) 0 (jd k_Mod_handOn 51 rfl) rfl ?_
        refine j_get (pc := 101) (fs := flR ad s17) (v := .ref (ad 19)) fl_Mod_64_10 0 (jd k_Mod_handOn 52 rfl) rfl rfl ?_
        refine j_iload (pc := 104) 6 (jd k_Mod_handOn 53 rfl) rfl ?_
        refine j_iconst (pc := 106) (v := 1) (jd k_Mod_handOn 54 rfl) (by decide) ?_
        refine j_isub (pc := 107) (jd k_Mod_handOn 55 rfl) ?_
        obtain ⟨h25, H⟩ := ochk H
        refine j_iald (pc := 108) (f := s17 36) 19 (jd k_Mod_handOn 56 rfl) rfl (jin.vp h25) ?_
        obtain ⟨x26, e47, H⟩ := olet H
        refine j_topi e47 ?_
        refine j_istore (pc := 109) (lv' := [(0, .ref (ad 0)), (1, .int p0), (2, .int p1), (3, .int p2), (4, .int x16), (5, .int x19), (6, .int x20), (7, .int x26)]) (jd k_Mod_handOn 57 rfl) rfl (Nat.le_of_ble_eq_true rfl) rfl ?_
        refine j_iconst (pc := 111) (v := 1) (jd k_Mod_handOn 58 rfl) (by decide) ?_
        refine j_istore (pc := 112) (lv' := [(0, .ref (ad 0)), (1, .int p0), (2, .int p1), (3, .int p2), (4, .int x16), (5, .int x19), (6, .int x20), (7, .int x26), (8, .int 1)]) (jd k_Mod_handOn 59 rfl) rfl (Nat.le_of_ble_eq_true rfl) rfl ?_
        obtain ⟨⟨x39, x40⟩, h41, H⟩ := obnd H
        try dsimp only at H
        refine lp_Mod_handOn_114 p0 p1 p2 x16 s17 x19 x20 jF x26 1 _ h41 ?_
        refine j_pick (lv' := [(0, .ref (ad 0)), (1, .int p0), (2, .int p1), (3, .int p2), (4, .int x16), (5, .int x19), (6, .int x20), (7, .int x39)]) [0, 1, 2, 3, 4, 5, 6, 7] rfl ?_
        refine j_iload (pc := 170) 5 (jd k_Mod_handOn 90 rfl) rfl ?_
        refine j_aload_n (pc := 172) 0 (jd k_Mod_handOn 91 rfl) rfl ?_
        refine j_iload_n (pc := 173) 1 (jd k_Mod_handOn 92 rfl) rfl ?_
        refine j_iload (pc := 174) 6 (jd k_Mod_handOn 93 rfl) rfl ?_
        obtain ⟨x42, h43, H⟩ := obnd H
        refine jc_V (pc := 176) (st := [.int x19]) (c_Mod_weight ad G p0 x20 s17 _ h43) L0_Mod_weight w1422 w1424 w56 0 rfl rfl (jd k_Mod_handOn 94 rfl) rfl (Nat.le_of_ble_eq_true rfl) (by decide) (Nat.le_refl _) (Nat.le_refl _) rfl rfl ?_
        refine j_iload (pc := 179) 7 (jd k_Mod_handOn 95 rfl) rfl ?_
        refine j_imul (pc := 181) (jd k_Mod_handOn 96 rfl) ?_
        refine j_iadd (pc := 182) (jd k_Mod_handOn 97 rfl) ?_
        refine j_aload_n (pc := 183) 0 (jd k_Mod_handOn 98 rfl) rfl ?_
        refine j_get (pc := 184) (fs := flR ad s17) (v := .int (s17 10 0)) fl_Mod_213_10 0 (jd k_Mod_handOn 99 rfl) rfl rfl ?_
        obtain ⟨h44, H⟩ := ochk H
        refine j_irem (pc := 187) (jd k_Mod_handOn 100 rfl) h44 ?_
        obtain ⟨x45, e46, H⟩ := olet H
        refine j_topi e46 ?_
        refine j_istore (pc := 188) (lv' := [(0, .ref (ad 0)), (1, .int p0), (2, .int p1), (3, .int p2), (4, .int x16), (5, .int x45), (6, .int x20), (7, .int x39)]) (jd k_Mod_handOn 101 rfl) rfl (Nat.le_of_ble_eq_true rfl) rfl ?_
        cases H
        exact j_pick [0, 1, 2, 3, 4, 5, 6] rfl K50
      · rw [if_neg (not_not_intro h24)] at H
        refine j_goto (pc := 97) (tgt := 190) (jd k_Mod_handOn 50 rfl) rfl ?_
        cases H
        exact K50

set_option maxRecDepth 20000 in
theorem lp_Mod_handOn_67 {ad : Nat → Nat} {G : jG} {P : jR → va_W → Prop} (p0 : Int32) (p1 : Int32) (p2 : Int32) : ∀ (n : Nat) (x16 : Int32) (s17 : jS) (r : Int32 × jS), L_Mod_handOn_67 p0 p1 p2 n x16 s17 = some r → J G m_Mod_handOn 3 0 0 P 213 [(0, .ref (ad 0)), (1, .int p0), (2, .int p1), (3, .int p2), (4, .int r.1)] [] (mkR ad G r.2) 0 0 → J G m_Mod_handOn 3 0 0 P 67 [(0, .ref (ad 0)), (1, .int p0), (2, .int p1), (3, .int p2), (4, .int x16)] [] (mkR ad G s17) 0 0 := by
  intro n
  induction n with
  | zero =>
    intro x16 s17 r H
    cases (show none = some r from H)
  | succ n ih =>
    intro x16 s17 r H kx
    have H : (
    if p2 < x16 then
      some (x16, s17)
    else
      Option.bind (L_Mod_handOn_79 p0 p1 x16 s17 jF 0 1) fun (x53, x54) =>
      if jin (x16 - 1) 7 then
      jlet (va_up s17 38 (upd (s17 38) (x16 - 1).toNatClampNeg x53)) fun s56 =>
      jlet (x16 + 1) fun x59 =>
      L_Mod_handOn_67 p0 p1 p2 n x59 s56
      else none) = some r := H
    refine j_iload (pc := 67) 4 (jd k_Mod_handOn 35 rfl) rfl ?_
    refine j_iload_n (pc := 69) 3 (jd k_Mod_handOn 36 rfl) rfl ?_
    refine j_icmp_gt (pc := 70) (tgt := 213) (jd k_Mod_handOn 37 rfl) rfl (fun h18 => ?_) (fun h18 => ?_)
    · rw [if_pos h18] at H
      cases H
      exact kx
    · rw [if_neg h18] at H
      refine j_iconst (pc := 73) (v := 0) (jd k_Mod_handOn 38 rfl) (by decide) ?_
      refine j_istore (pc := 74) (lv' := [(0, .ref (ad 0)), (1, .int p0), (2, .int p1), (3, .int p2), (4, .int x16), (5, .int 0)]) (jd k_Mod_handOn 39 rfl) rfl (Nat.le_of_ble_eq_true rfl) rfl ?_
      refine j_iconst (pc := 76) (v := 1) (jd k_Mod_handOn 40 rfl) (by decide) ?_
      refine j_istore (pc := 77) (lv' := [(0, .ref (ad 0)), (1, .int p0), (2, .int p1), (3, .int p2), (4, .int x16), (5, .int 0), (6, .int 1)]) (jd k_Mod_handOn 41 rfl) rfl (Nat.le_of_ble_eq_true rfl) rfl ?_
      obtain ⟨⟨x53, x54⟩, h55, H⟩ := obnd H
      try dsimp only at H
      refine lp_Mod_handOn_79 p0 p1 p2 x16 s17 jF 0 1 _ h55 ?_
      refine j_pick (lv' := [(0, .ref (ad 0)), (1, .int p0), (2, .int p1), (3, .int p2), (4, .int x16), (5, .int x53)]) [0, 1, 2, 3, 4, 5] rfl ?_
      refine j_aload_n (pc := 196) 0 (jd k_Mod_handOn 104 rfl) rfl ?_
      refine j_get (pc := 197) (fs := flR ad s17) (v := .ref (ad 21)) fl_Mod_70_10 0 (jd k_Mod_handOn 105 rfl) rfl rfl ?_
      refine j_iload (pc := 200) 4 (jd k_Mod_handOn 106 rfl) rfl ?_
      refine j_iconst (pc := 202) (v := 1) (jd k_Mod_handOn 107 rfl) (by decide) ?_
      refine j_isub (pc := 203) (jd k_Mod_handOn 108 rfl) ?_
      refine j_iload (pc := 204) 5 (jd k_Mod_handOn 109 rfl) rfl ?_
      obtain ⟨h58, H⟩ := ochk H
      obtain ⟨s56, e57, H⟩ := olet H
      refine j_iast (pc := 206) (f := s17 38) 21 (jd k_Mod_handOn 110 rfl) rfl (jin.vp h58) ((waR_38 ad G s17 _).trans (congrArg (mkR ad G) e57)) ?_
      obtain ⟨x59, e60, H⟩ := olet H
      refine j_iinc (pc := 207) (lv' := [(0, .ref (ad 0)), (1, .int p0), (2, .int p1), (3, .int p2), (4, .int x59), (5, .int x53)]) 4 (jd k_Mod_handOn 111 rfl) rfl e60 rfl (Nat.le_of_ble_eq_true rfl) rfl ?_
      refine j_goto (pc := 210) (tgt := 67) (jd k_Mod_handOn 112 rfl) rfl ?_
      refine j_pick (lv' := [(0, .ref (ad 0)), (1, .int p0), (2, .int p1), (3, .int p2), (4, .int x59)]) [0, 1, 2, 3, 4] rfl ?_
      exact ih x59 s56 _ H kx

set_option maxRecDepth 20000 in
theorem c_Mod_handOn (ad : Nat → Nat) (G : jG) (p0 : Int32) (p1 : Int32) (p2 : Int32) (s : jS) (r : jS) (H : f_Mod_handOn p0 p1 p2 s = some r) : jCon G m_Mod_handOn y_Mod_handOn 3 0 0 [.ref (ad 0), .int p0, .int p1, .int p2] (mkR ad G s) (jEq none (mkR ad G r)) := by
  refine jCon.of (by decide +kernel) rfl rfl rfl (Nat.le_of_ble_eq_true rfl) rfl ?_
  have H : (
  Option.bind (α := Int32) (
    if (s 15 0) = 0 then
      some 1
    else
      if ¬ (s 16 0) = 0 then
        Option.bind (f_Mod_enough p0 s) fun x3 =>
        if x3 = 0 then
          some 2
        else
          if p2 < 1 then
            some 2
          else
            if 7 < p2 then
              some 2
            else
              if p1 < 1 then
                some 2
              else
                if p1 ≤ p2 then
                  some 0
                else
                  some 2
      else
        some 1) fun x10 =>
  jlet (va_up s 0 (fun _ => x10)) fun s13 =>
  if (s13 0 0) ≤ 0 then
    Option.bind (L_Mod_handOn_67 p0 p1 p2 jF 1 s13) fun (x61, s62) =>
    jlet (va_up s62 11 (fun _ => p2)) fun s64 =>
    jlet (va_up s64 12 (fun _ => p1)) fun s66 =>
    Option.bind (f_Mod_forget s66) fun s68 =>
    Option.bind (L_Mod_handOn_230 jF 0 s68) fun (x86, s87) =>
    some s87
  else
    some s13) = some r := H
  generalize hP9 : jEq none (mkR ad G r) = P
  refine j_aload_n (pc := 0) 0 (jd k_Mod_handOn 0 rfl) rfl ?_
  refine j_aload_n (pc := 1) 0 (jd k_Mod_handOn 1 rfl) rfl ?_
  refine j_get (pc := 2) (fs := flR ad s) (v := .int (s 15 0)) fl_Mod_203_10 0 (jd k_Mod_handOn 2 rfl) rfl rfl ?_
  obtain ⟨x10, h11, H⟩ := obnd H
  have K12 : J G m_Mod_handOn 3 0 0 P 53 [(0, .ref (ad 0)), (1, .int p0), (2, .int p1), (3, .int p2)] [.int x10, .ref (ad 0)] (mkR ad G s) 0 0 := by
    obtain ⟨s13, e14, H⟩ := olet H
    refine j_put (pc := 53) (fs := flR ad s) (fp_Mod_170_10 _) 0 (jd k_Mod_handOn 28 rfl) rfl rfl rfl (Nat.le_of_ble_eq_true rfl) ((wpR_0 ad G s _).trans (congrArg (mkR ad G) e14)) ?_
    refine j_aload_n (pc := 56) 0 (jd k_Mod_handOn 29 rfl) rfl ?_
    refine j_get (pc := 57) (fs := flR ad s13) (v := .int (s13 0 0)) fl_Mod_170_10 0 (jd k_Mod_handOn 30 rfl) rfl rfl ?_
    refine j_if_le (pc := 60) (tgt := 64) (jd k_Mod_handOn 31 rfl) rfl (fun h15 => ?_) (fun h15 => ?_)
    · rw [if_pos h15] at H
      refine j_iconst (pc := 64) (v := 1) (jd k_Mod_handOn 33 rfl) (by decide) ?_
      refine j_istore (pc := 65) (lv' := [(0, .ref (ad 0)), (1, .int p0), (2, .int p1), (3, .int p2), (4, .int 1)]) (jd k_Mod_handOn 34 rfl) rfl (Nat.le_of_ble_eq_true rfl) rfl ?_
      obtain ⟨⟨x61, s62⟩, h63, H⟩ := obnd H
      try dsimp only at H
      refine lp_Mod_handOn_67 p0 p1 p2 jF 1 s13 _ h63 ?_
      refine j_pick (lv' := [(0, .ref (ad 0)), (2, .int p1), (3, .int p2)]) [0, 2, 3] rfl ?_
      refine j_aload_n (pc := 213) 0 (jd k_Mod_handOn 113 rfl) rfl ?_
      refine j_iload_n (pc := 214) 2 (jd k_Mod_handOn 114 rfl) rfl ?_
      obtain ⟨s64, e65, H⟩ := olet H
      refine j_put (pc := 215) (fs := flR ad s62) (fp_Mod_207_10 _) 0 (jd k_Mod_handOn 115 rfl) rfl rfl rfl (Nat.le_of_ble_eq_true rfl) ((wpR_11 ad G s62 _).trans (congrArg (mkR ad G) e65)) ?_
      refine j_aload_n (pc := 218) 0 (jd k_Mod_handOn 116 rfl) rfl ?_
      refine j_iload_n (pc := 219) 1 (jd k_Mod_handOn 117 rfl) rfl ?_
      obtain ⟨s66, e67, H⟩ := olet H
      refine j_put (pc := 220) (fs := flR ad s64) (fp_Mod_216_10 _) 0 (jd k_Mod_handOn 118 rfl) rfl rfl rfl (Nat.le_of_ble_eq_true rfl) ((wpR_12 ad G s64 _).trans (congrArg (mkR ad G) e67)) ?_
      refine j_aload_n (pc := 223) 0 (jd k_Mod_handOn 119 rfl) rfl ?_
      obtain ⟨s68, h69, H⟩ := obnd H
      refine jc_V (pc := 224) (st := []) (c_Mod_forget ad G s66 _ h69) L0_Mod_forget w1316 w1318 w35 0 rfl rfl (jd k_Mod_handOn 120 rfl) rfl (Nat.le_of_ble_eq_true rfl) (by decide) (Nat.le_refl _) (Nat.le_refl _) rfl rfl ?_
      refine j_iconst (pc := 227) (v := 0) (jd k_Mod_handOn 121 rfl) (by decide) ?_
      refine j_istore (pc := 228) (lv' := [(0, .ref (ad 0)), (2, .int p1), (3, .int p2), (4, .int 0)]) (jd k_Mod_handOn 122 rfl) rfl (Nat.le_of_ble_eq_true rfl) rfl ?_
      obtain ⟨⟨x86, s87⟩, h88, H⟩ := obnd H
      try dsimp only at H
      refine j_pick (lv' := [(0, .ref (ad 0)), (4, .int 0)]) [0, 3] rfl ?_
      refine lp_Mod_handOn_230  jF 0 s68 _ h88 ?_
      refine j_pick (lv' := []) [] rfl ?_
      cases H
      subst hP9
      exact j_vret (pc := 278) (jd k_Mod_handOn 147 rfl) rfl ⟨rfl, rfl⟩
    · rw [if_neg h15] at H
      cases H
      subst hP9
      exact j_vret (pc := 63) (jd k_Mod_handOn 32 rfl) rfl ⟨rfl, rfl⟩
  have H := h11
  refine j_if_eq (pc := 5) (tgt := 15) (jd k_Mod_handOn 3 rfl) rfl (fun h1 => ?_) (fun h1 => ?_)
  · rw [if_pos h1] at H
    refine j_iconst (pc := 15) (v := 1) (jd k_Mod_handOn 7 rfl) (by decide) ?_
    refine j_goto (pc := 16) (tgt := 53) (jd k_Mod_handOn 8 rfl) rfl ?_
    cases H
    exact K12
  · rw [if_neg h1] at H
    refine j_aload_n (pc := 8) 0 (jd k_Mod_handOn 4 rfl) rfl ?_
    refine j_get (pc := 9) (fs := flR ad s) (v := .int (s 16 0)) fl_Mod_225_10 0 (jd k_Mod_handOn 5 rfl) rfl rfl ?_
    refine j_if_ne (pc := 12) (tgt := 19) (jd k_Mod_handOn 6 rfl) rfl (fun h2 => ?_) (fun h2 => ?_)
    · rw [if_pos h2] at H
      refine j_aload_n (pc := 19) 0 (jd k_Mod_handOn 9 rfl) rfl ?_
      refine j_iload_n (pc := 20) 1 (jd k_Mod_handOn 10 rfl) rfl ?_
      obtain ⟨x3, h4, H⟩ := obnd H
      refine jc_V (pc := 21) (st := [.ref (ad 0)]) (c_Mod_enough ad G p0 s _ h4) L0_Mod_enough w1489 w1491 w61 0 rfl rfl (jd k_Mod_handOn 11 rfl) rfl (Nat.le_of_ble_eq_true rfl) (by decide) (Nat.le_refl _) (Nat.le_refl _) rfl rfl ?_
      refine j_if_eq (pc := 24) (tgt := 48) (jd k_Mod_handOn 12 rfl) rfl (fun h5 => ?_) (fun h5 => ?_)
      · rw [if_pos h5] at H
        refine j_iconst (pc := 48) (v := 2) (jd k_Mod_handOn 25 rfl) (by decide) ?_
        refine j_goto (pc := 49) (tgt := 53) (jd k_Mod_handOn 26 rfl) rfl ?_
        cases H
        exact K12
      · rw [if_neg h5] at H
        refine j_iload_n (pc := 27) 3 (jd k_Mod_handOn 13 rfl) rfl ?_
        refine j_iconst (pc := 28) (v := 1) (jd k_Mod_handOn 14 rfl) (by decide) ?_
        refine j_icmp_lt (pc := 29) (tgt := 48) (jd k_Mod_handOn 15 rfl) rfl (fun h6 => ?_) (fun h6 => ?_)
        · rw [if_pos h6] at H
          refine j_iconst (pc := 48) (v := 2) (jd k_Mod_handOn 25 rfl) (by decide) ?_
          refine j_goto (pc := 49) (tgt := 53) (jd k_Mod_handOn 26 rfl) rfl ?_
          cases H
          exact K12
        · rw [if_neg h6] at H
          refine j_iload_n (pc := 32) 3 (jd k_Mod_handOn 16 rfl) rfl ?_
          refine j_bipush (pc := 33) (v := 7) (jd k_Mod_handOn 17 rfl) (by decide) ?_
          refine j_icmp_gt (pc := 35) (tgt := 48) (jd k_Mod_handOn 18 rfl) rfl (fun h7 => ?_) (fun h7 => ?_)
          · rw [if_pos h7] at H
            refine j_iconst (pc := 48) (v := 2) (jd k_Mod_handOn 25 rfl) (by decide) ?_
            refine j_goto (pc := 49) (tgt := 53) (jd k_Mod_handOn 26 rfl) rfl ?_
            cases H
            exact K12
          · rw [if_neg h7] at H
            refine j_iload_n (pc := 38) 2 (jd k_Mod_handOn 19 rfl) rfl ?_
            refine j_iconst (pc := 39) (v := 1) (jd k_Mod_handOn 20 rfl) (by decide) ?_
            refine j_icmp_lt (pc := 40) (tgt := 48) (jd k_Mod_handOn 21 rfl) rfl (fun h8 => ?_) (fun h8 => ?_)
            · rw [if_pos h8] at H
              refine j_iconst (pc := 48) (v := 2) (jd k_Mod_handOn 25 rfl) (by decide) ?_
              refine j_goto (pc := 49) (tgt := 53) (jd k_Mod_handOn 26 rfl) rfl ?_
              cases H
              exact K12
            · rw [if_neg h8] at H
              refine j_iload_n (pc := 43) 2 (jd k_Mod_handOn 22 rfl) rfl ?_
              refine j_iload_n (pc := 44) 3 (jd k_Mod_handOn 23 rfl) rfl ?_
              refine j_icmp_le (pc := 45) (tgt := 52) (jd k_Mod_handOn 24 rfl) rfl (fun h9 => ?_) (fun h9 => ?_)
              · rw [if_pos h9] at H
                refine j_iconst (pc := 52) (v := 0) (jd k_Mod_handOn 27 rfl) (by decide) ?_
                cases H
                exact K12
              · rw [if_neg h9] at H
                refine j_iconst (pc := 48) (v := 2) (jd k_Mod_handOn 25 rfl) (by decide) ?_
                refine j_goto (pc := 49) (tgt := 53) (jd k_Mod_handOn 26 rfl) rfl ?_
                cases H
                exact K12
    · rw [if_neg (not_not_intro h2)] at H
      refine j_iconst (pc := 15) (v := 1) (jd k_Mod_handOn 7 rfl) (by decide) ?_
      refine j_goto (pc := 16) (tgt := 53) (jd k_Mod_handOn 8 rfl) rfl ?_
      cases H
      exact K12

