set_option maxRecDepth 20000 in
theorem c_Field_init_6_1019 (G : jG) (a : Nat) : jCon G m_Field_init y_Field_init 0 0 0 [.ref a, .int 1019] [(a, .inr (6, [.int 0]))] (fun r w => r = (.inl none : jR) ∧ w = ([(a, .inr (6, [.int 1019]))] : va_W)) := by
  refine jCon.of (by decide +kernel) rfl rfl rfl (Nat.le_of_ble_eq_true rfl) rfl ?_
  generalize hP9 : (fun r w => r = (.inl none : jR) ∧ w = ([(a, .inr (6, [.int 1019]))] : va_W)) = P
  refine j_aload_n (pc := 0) 0 (jd k_Field_init 0 rfl) rfl ?_
  refine j_objinit (pc := 1) w102 w92 w93 (jd k_Field_init 1 rfl) (Nat.le_of_ble_eq_true rfl) ?_
  refine j_aload_n (pc := 4) 0 (jd k_Field_init 2 rfl) rfl ?_
  refine j_iload_n (pc := 5) 1 (jd k_Field_init 3 rfl) rfl ?_
  refine j_iconst (pc := 6) (v := 1) (jd k_Field_init 4 rfl) (by decide) ?_
  refine j_icmp_le (pc := 7) (tgt := 14) (jd k_Field_init 5 rfl) rfl (fun h => absurd h (by decide)) (fun h => ?_)
  refine j_iload_n (pc := 10) 1 (jd k_Field_init 6 rfl) rfl ?_
  refine j_goto (pc := 11) (tgt := 15) (jd k_Field_init 7 rfl) rfl ?_
  refine j_put (pc := 15) (fs := [.int 0]) (ws' := [(a, .inr (6, [.int 1019]))]) fp_Field_7_6 0 (jd k_Field_init 9 rfl) rfl rfl rfl (Nat.le_of_ble_eq_true rfl) rfl ?_
  subst hP9
  exact j_vret (pc := 18) (jd k_Field_init 10 rfl) rfl ⟨rfl, rfl⟩

set_option maxRecDepth 20000 in
theorem c_Prime_init_1019 (G : jG) (a : Nat) : jCon G m_Prime_init y_Prime_init 1 0 0 [.ref a, .int 1019] [(a, .inr (6, [.int 0]))] (fun r w => r = (.inl none : jR) ∧ w = ([(a, .inr (6, [.int 1019]))] : va_W)) := by
  refine jCon.of (by decide +kernel) rfl rfl rfl (Nat.le_of_ble_eq_true rfl) rfl ?_
  generalize hP9 : (fun r w => r = (.inl none : jR) ∧ w = ([(a, .inr (6, [.int 1019]))] : va_W)) = P
  refine j_aload_n (pc := 0) 0 (jd k_Prime_init 0 rfl) rfl ?_
  refine j_iload_n (pc := 1) 1 (jd k_Prime_init 1 rfl) rfl ?_
  show J G m_Prime_init 1 0 0 P 2 [(0, .ref a), (1, .int 1019)] [.int 1019, .ref a] ([] ++ [(a, .inr (6, [.int 0]))]) 0 0
  refine j_callI (pc := 2) (d := 1) (mc := 0) (ms := 0) (k := 0) (n := 0) (st := []) (jCon.frL (c_Field_init_6_1019 G a) []) L0_Field_init rfl w99 w100 rfl (jd k_Prime_init 2 rfl) rfl (Nat.le_of_ble_eq_true rfl) (by decide) (by decide) (by decide) rfl (fun E w h => by obtain ⟨w0, -, h, -⟩ := h; cases h) (fun v w h => ?_)
  obtain ⟨w0, hw, hv, hq⟩ := h
  cases hv
  subst hq
  subst hw
  show J G m_Prime_init 1 0 0 P 5 [(0, .ref a), (1, .int 1019)] [] [(a, .inr (6, [.int 1019]))] 0 0
  subst hP9
  exact j_vret (pc := 5) (jd k_Prime_init 3 rfl) rfl ⟨rfl, rfl⟩

set_option maxRecDepth 20000 in
theorem c_Field_init_6_31 (G : jG) (a : Nat) : jCon G m_Field_init y_Field_init 0 0 0 [.ref a, .int 31] [(a, .inr (6, [.int 0]))] (fun r w => r = (.inl none : jR) ∧ w = ([(a, .inr (6, [.int 31]))] : va_W)) := by
  refine jCon.of (by decide +kernel) rfl rfl rfl (Nat.le_of_ble_eq_true rfl) rfl ?_
  generalize hP9 : (fun r w => r = (.inl none : jR) ∧ w = ([(a, .inr (6, [.int 31]))] : va_W)) = P
  refine j_aload_n (pc := 0) 0 (jd k_Field_init 0 rfl) rfl ?_
  refine j_objinit (pc := 1) w102 w92 w93 (jd k_Field_init 1 rfl) (Nat.le_of_ble_eq_true rfl) ?_
  refine j_aload_n (pc := 4) 0 (jd k_Field_init 2 rfl) rfl ?_
  refine j_iload_n (pc := 5) 1 (jd k_Field_init 3 rfl) rfl ?_
  refine j_iconst (pc := 6) (v := 1) (jd k_Field_init 4 rfl) (by decide) ?_
  refine j_icmp_le (pc := 7) (tgt := 14) (jd k_Field_init 5 rfl) rfl (fun h => absurd h (by decide)) (fun h => ?_)
  refine j_iload_n (pc := 10) 1 (jd k_Field_init 6 rfl) rfl ?_
  refine j_goto (pc := 11) (tgt := 15) (jd k_Field_init 7 rfl) rfl ?_
  refine j_put (pc := 15) (fs := [.int 0]) (ws' := [(a, .inr (6, [.int 31]))]) fp_Field_7_6 0 (jd k_Field_init 9 rfl) rfl rfl rfl (Nat.le_of_ble_eq_true rfl) rfl ?_
  subst hP9
  exact j_vret (pc := 18) (jd k_Field_init 10 rfl) rfl ⟨rfl, rfl⟩

set_option maxRecDepth 20000 in
theorem c_Prime_init_31 (G : jG) (a : Nat) : jCon G m_Prime_init y_Prime_init 1 0 0 [.ref a, .int 31] [(a, .inr (6, [.int 0]))] (fun r w => r = (.inl none : jR) ∧ w = ([(a, .inr (6, [.int 31]))] : va_W)) := by
  refine jCon.of (by decide +kernel) rfl rfl rfl (Nat.le_of_ble_eq_true rfl) rfl ?_
  generalize hP9 : (fun r w => r = (.inl none : jR) ∧ w = ([(a, .inr (6, [.int 31]))] : va_W)) = P
  refine j_aload_n (pc := 0) 0 (jd k_Prime_init 0 rfl) rfl ?_
  refine j_iload_n (pc := 1) 1 (jd k_Prime_init 1 rfl) rfl ?_
  show J G m_Prime_init 1 0 0 P 2 [(0, .ref a), (1, .int 31)] [.int 31, .ref a] ([] ++ [(a, .inr (6, [.int 0]))]) 0 0
  refine j_callI (pc := 2) (d := 1) (mc := 0) (ms := 0) (k := 0) (n := 0) (st := []) (jCon.frL (c_Field_init_6_31 G a) []) L0_Field_init rfl w99 w100 rfl (jd k_Prime_init 2 rfl) rfl (Nat.le_of_ble_eq_true rfl) (by decide) (by decide) (by decide) rfl (fun E w h => by obtain ⟨w0, -, h, -⟩ := h; cases h) (fun v w h => ?_)
  obtain ⟨w0, hw, hv, hq⟩ := h
  cases hv
  subst hq
  subst hw
  show J G m_Prime_init 1 0 0 P 5 [(0, .ref a), (1, .int 31)] [] [(a, .inr (6, [.int 31]))] 0 0
  subst hP9
  exact j_vret (pc := 5) (jd k_Prime_init 3 rfl) rfl ⟨rfl, rfl⟩

set_option maxRecDepth 20000 in
theorem c_Field_init_2_256 (G : jG) (a : Nat) : jCon G m_Field_init y_Field_init 0 0 0 [.ref a, .int 256] [(a, .inr (2, [.int 0]))] (fun r w => r = (.inl none : jR) ∧ w = ([(a, .inr (2, [.int 256]))] : va_W)) := by
  refine jCon.of (by decide +kernel) rfl rfl rfl (Nat.le_of_ble_eq_true rfl) rfl ?_
  generalize hP9 : (fun r w => r = (.inl none : jR) ∧ w = ([(a, .inr (2, [.int 256]))] : va_W)) = P
  refine j_aload_n (pc := 0) 0 (jd k_Field_init 0 rfl) rfl ?_
  refine j_objinit (pc := 1) w102 w92 w93 (jd k_Field_init 1 rfl) (Nat.le_of_ble_eq_true rfl) ?_
  refine j_aload_n (pc := 4) 0 (jd k_Field_init 2 rfl) rfl ?_
  refine j_iload_n (pc := 5) 1 (jd k_Field_init 3 rfl) rfl ?_
  refine j_iconst (pc := 6) (v := 1) (jd k_Field_init 4 rfl) (by decide) ?_
  refine j_icmp_le (pc := 7) (tgt := 14) (jd k_Field_init 5 rfl) rfl (fun h => absurd h (by decide)) (fun h => ?_)
  refine j_iload_n (pc := 10) 1 (jd k_Field_init 6 rfl) rfl ?_
  refine j_goto (pc := 11) (tgt := 15) (jd k_Field_init 7 rfl) rfl ?_
  refine j_put (pc := 15) (fs := [.int 0]) (ws' := [(a, .inr (2, [.int 256]))]) fp_Field_7_2 0 (jd k_Field_init 9 rfl) rfl rfl rfl (Nat.le_of_ble_eq_true rfl) rfl ?_
  subst hP9
  exact j_vret (pc := 18) (jd k_Field_init 10 rfl) rfl ⟨rfl, rfl⟩

set_option maxRecDepth 20000 in
theorem c_Byte_init (G : jG) (a : Nat) : jCon G m_Byte_init y_Byte_init 1 0 0 [.ref a] [(a, .inr (2, [.int 0]))] (fun r w => r = (.inl none : jR) ∧ w = ([(a, .inr (2, [.int 256]))] : va_W)) := by
  refine jCon.of (by decide +kernel) rfl rfl rfl (Nat.le_of_ble_eq_true rfl) rfl ?_
  generalize hP9 : (fun r w => r = (.inl none : jR) ∧ w = ([(a, .inr (2, [.int 256]))] : va_W)) = P
  refine j_aload_n (pc := 0) 0 (jd k_Byte_init 0 rfl) rfl ?_
  refine j_sipush (pc := 1) (v := 256) (jd k_Byte_init 1 rfl) (by decide) ?_
  show J G m_Byte_init 1 0 0 P 4 [(0, .ref a)] [.int 256, .ref a] ([] ++ [(a, .inr (2, [.int 0]))]) 0 0
  refine j_callI (pc := 4) (d := 1) (mc := 0) (ms := 0) (k := 0) (n := 0) (st := []) (jCon.frL (c_Field_init_2_256 G a) []) L0_Field_init rfl w117 w100 rfl (jd k_Byte_init 2 rfl) rfl (Nat.le_of_ble_eq_true rfl) (by decide) (by decide) (by decide) rfl (fun E w h => by obtain ⟨w0, -, h, -⟩ := h; cases h) (fun v w h => ?_)
  obtain ⟨w0, hw, hv, hq⟩ := h
  cases hv
  subst hq
  subst hw
  show J G m_Byte_init 1 0 0 P 7 [(0, .ref a)] [] [(a, .inr (2, [.int 256]))] 0 0
  subst hP9
  exact j_vret (pc := 7) (jd k_Byte_init 3 rfl) rfl ⟨rfl, rfl⟩

set_option maxRecDepth 20000 in
theorem c_Points_init (G : jG) (a : Nat) (b1 : Nat) : jCon G m_Points_init y_Points_init 0 3 36 [.ref a, .ref b1] [(a, .inr (5, [.null, .null, .null, .null, .int 0]))] (fun r w => r = (.inl none : jR) ∧ ∃ q1 q2 q3 : Nat, w = ([(a, .inr (5, [.ref q1, .ref q2, .ref q3, .ref b1, .int 0])), (q1, .inl (G.1 0, 12, .inl (fun _ => 0))), (q2, .inl (G.1 0, 12, .inl (fun _ => 0))), (q3, .inl (G.1 0, 12, .inl (fun _ => 0)))] : va_W)) := by
  refine jCon.of (by decide +kernel) rfl rfl rfl (Nat.le_of_ble_eq_true rfl) rfl ?_
  generalize hP9 : (fun r w => r = (.inl none : jR) ∧ ∃ q1 q2 q3 : Nat, w = ([(a, .inr (5, [.ref q1, .ref q2, .ref q3, .ref b1, .int 0])), (q1, .inl (G.1 0, 12, .inl (fun _ => 0))), (q2, .inl (G.1 0, 12, .inl (fun _ => 0))), (q3, .inl (G.1 0, 12, .inl (fun _ => 0)))] : va_W)) = P
  refine j_aload_n (pc := 0) 0 (jd k_Points_init 0 rfl) rfl ?_
  refine j_objinit (pc := 1) w125 w92 w93 (jd k_Points_init 1 rfl) (Nat.le_of_ble_eq_true rfl) ?_
  refine j_aload_n (pc := 4) 0 (jd k_Points_init 2 rfl) rfl ?_
  refine j_bipush (pc := 5) (v := 12) (jd k_Points_init 3 rfl) (by decide) ?_
  refine j_newi (pc := 7) (N := 12) w142 (by decide) (by decide) (by decide) (jd k_Points_init 4 rfl) (by decide) (by decide) (fun q1 => ?_)
  refine j_put (pc := 9) (fs := [.null, .null, .null, .null, .int 0]) (ws' := [(a, .inr (5, [.ref q1, .null, .null, .null, .int 0])), (q1, .inl (G.1 0, 12, .inl (fun _ => 0)))]) fp_Points_9_5 0 (jd k_Points_init 5 rfl) rfl rfl rfl (Nat.le_of_ble_eq_true rfl) rfl ?_
  refine j_aload_n (pc := 12) 0 (jd k_Points_init 6 rfl) rfl ?_
  refine j_bipush (pc := 13) (v := 12) (jd k_Points_init 7 rfl) (by decide) ?_
  refine j_newi (pc := 15) (N := 12) w142 (by decide) (by decide) (by decide) (jd k_Points_init 8 rfl) (by decide) (by decide) (fun q2 => ?_)
  refine j_put (pc := 17) (fs := [.ref q1, .null, .null, .null, .int 0]) (ws' := [(a, .inr (5, [.ref q1, .ref q2, .null, .null, .int 0])), (q1, .inl (G.1 0, 12, .inl (fun _ => 0))), (q2, .inl (G.1 0, 12, .inl (fun _ => 0)))]) fp_Points_13_5 0 (jd k_Points_init 9 rfl) rfl rfl rfl (Nat.le_of_ble_eq_true rfl) rfl ?_
  refine j_aload_n (pc := 20) 0 (jd k_Points_init 10 rfl) rfl ?_
  refine j_bipush (pc := 21) (v := 12) (jd k_Points_init 11 rfl) (by decide) ?_
  refine j_newi (pc := 23) (N := 12) w142 (by decide) (by decide) (by decide) (jd k_Points_init 12 rfl) (by decide) (by decide) (fun q3 => ?_)
  refine j_put (pc := 25) (fs := [.ref q1, .ref q2, .null, .null, .int 0]) (ws' := [(a, .inr (5, [.ref q1, .ref q2, .ref q3, .null, .int 0])), (q1, .inl (G.1 0, 12, .inl (fun _ => 0))), (q2, .inl (G.1 0, 12, .inl (fun _ => 0))), (q3, .inl (G.1 0, 12, .inl (fun _ => 0)))]) fp_Points_16_5 0 (jd k_Points_init 13 rfl) rfl rfl rfl (Nat.le_of_ble_eq_true rfl) rfl ?_
  refine j_aload_n (pc := 28) 0 (jd k_Points_init 14 rfl) rfl ?_
  refine j_aload_n (pc := 29) 1 (jd k_Points_init 15 rfl) rfl ?_
  refine j_put (pc := 30) (fs := [.ref q1, .ref q2, .ref q3, .null, .int 0]) (ws' := [(a, .inr (5, [.ref q1, .ref q2, .ref q3, .ref b1, .int 0])), (q1, .inl (G.1 0, 12, .inl (fun _ => 0))), (q2, .inl (G.1 0, 12, .inl (fun _ => 0))), (q3, .inl (G.1 0, 12, .inl (fun _ => 0)))]) (fp_Points_19_5 _) 0 (jd k_Points_init 16 rfl) rfl rfl rfl (Nat.le_of_ble_eq_true rfl) rfl ?_
  subst hP9
  exact j_vret (pc := 33) (jd k_Points_init 17 rfl) rfl ⟨rfl, q1, q2, q3, rfl⟩

set_option maxRecDepth 20000 in
theorem c_Group_init_9_1_4_9 (G : jG) (a : Nat) (b1 : Nat) : jCon G m_Group_init y_Group_init 0 0 0 [.ref a, .ref b1, .int 1, .int 4, .int 9] [(a, .inr (9, [.null, .int 0, .int 0, .int 0]))] (fun r w => r = (.inl none : jR) ∧ w = ([(a, .inr (9, [.ref b1, .int 1, .int 4, .int 9]))] : va_W)) := by
  refine jCon.of (by decide +kernel) rfl rfl rfl (Nat.le_of_ble_eq_true rfl) rfl ?_
  generalize hP9 : (fun r w => r = (.inl none : jR) ∧ w = ([(a, .inr (9, [.ref b1, .int 1, .int 4, .int 9]))] : va_W)) = P
  refine j_aload_n (pc := 0) 0 (jd k_Group_init 0 rfl) rfl ?_
  refine j_objinit (pc := 1) w153 w92 w93 (jd k_Group_init 1 rfl) (Nat.le_of_ble_eq_true rfl) ?_
  refine j_aload_n (pc := 4) 0 (jd k_Group_init 2 rfl) rfl ?_
  refine j_aload_n (pc := 5) 1 (jd k_Group_init 3 rfl) rfl ?_
  refine j_put (pc := 6) (fs := [.null, .int 0, .int 0, .int 0]) (ws' := [(a, .inr (9, [.ref b1, .int 0, .int 0, .int 0]))]) fp_Group_7_9 0 (jd k_Group_init 4 rfl) rfl rfl rfl (Nat.le_of_ble_eq_true rfl) rfl ?_
  refine j_aload_n (pc := 9) 0 (jd k_Group_init 5 rfl) rfl ?_
  refine j_iload_n (pc := 10) 2 (jd k_Group_init 6 rfl) rfl ?_
  refine j_put (pc := 11) (fs := [.ref b1, .int 0, .int 0, .int 0]) (ws' := [(a, .inr (9, [.ref b1, .int 1, .int 0, .int 0]))]) fp_Group_13_9 0 (jd k_Group_init 7 rfl) rfl rfl rfl (Nat.le_of_ble_eq_true rfl) rfl ?_
  refine j_aload_n (pc := 14) 0 (jd k_Group_init 8 rfl) rfl ?_
  refine j_iload_n (pc := 15) 3 (jd k_Group_init 9 rfl) rfl ?_
  refine j_put (pc := 16) (fs := [.ref b1, .int 1, .int 0, .int 0]) (ws' := [(a, .inr (9, [.ref b1, .int 1, .int 4, .int 0]))]) fp_Group_17_9 0 (jd k_Group_init 10 rfl) rfl rfl rfl (Nat.le_of_ble_eq_true rfl) rfl ?_
  refine j_aload_n (pc := 19) 0 (jd k_Group_init 11 rfl) rfl ?_
  refine j_iload (pc := 20) 4 (jd k_Group_init 12 rfl) rfl ?_
  refine j_put (pc := 22) (fs := [.ref b1, .int 1, .int 4, .int 0]) (ws' := [(a, .inr (9, [.ref b1, .int 1, .int 4, .int 9]))]) fp_Group_20_9 0 (jd k_Group_init 13 rfl) rfl rfl rfl (Nat.le_of_ble_eq_true rfl) rfl ?_
  subst hP9
  exact j_vret (pc := 25) (jd k_Group_init 14 rfl) rfl ⟨rfl, rfl⟩

set_option maxRecDepth 20000 in
theorem c_Square_init (G : jG) (a : Nat) (b1 : Nat) : jCon G m_Square_init y_Square_init 1 0 0 [.ref a, .ref b1] [(a, .inr (9, [.null, .int 0, .int 0, .int 0]))] (fun r w => r = (.inl none : jR) ∧ w = ([(a, .inr (9, [.ref b1, .int 1, .int 4, .int 9]))] : va_W)) := by
  refine jCon.of (by decide +kernel) rfl rfl rfl (Nat.le_of_ble_eq_true rfl) rfl ?_
  generalize hP9 : (fun r w => r = (.inl none : jR) ∧ w = ([(a, .inr (9, [.ref b1, .int 1, .int 4, .int 9]))] : va_W)) = P
  refine j_aload_n (pc := 0) 0 (jd k_Square_init 0 rfl) rfl ?_
  refine j_aload_n (pc := 1) 1 (jd k_Square_init 1 rfl) rfl ?_
  refine j_iconst (pc := 2) (v := 1) (jd k_Square_init 2 rfl) (by decide) ?_
  refine j_iconst (pc := 3) (v := 4) (jd k_Square_init 3 rfl) (by decide) ?_
  refine j_bipush (pc := 4) (v := 9) (jd k_Square_init 4 rfl) (by decide) ?_
  show J G m_Square_init 1 0 0 P 6 [(0, .ref a), (1, .ref b1)] [.int 9, .int 4, .int 1, .ref b1, .ref a] ([] ++ [(a, .inr (9, [.null, .int 0, .int 0, .int 0]))]) 0 0
  refine j_callI (pc := 6) (d := 1) (mc := 0) (ms := 0) (k := 0) (n := 0) (st := []) (jCon.frL (c_Group_init_9_1_4_9 G a b1) []) L0_Group_init rfl w150 w151 rfl (jd k_Square_init 5 rfl) rfl (Nat.le_of_ble_eq_true rfl) (by decide) (by decide) (by decide) rfl (fun E w h => by obtain ⟨w0, -, h, -⟩ := h; cases h) (fun v w h => ?_)
  obtain ⟨w0, hw, hv, hq⟩ := h
  cases hv
  subst hq
  subst hw
  show J G m_Square_init 1 0 0 P 9 [(0, .ref a), (1, .ref b1)] [] [(a, .inr (9, [.ref b1, .int 1, .int 4, .int 9]))] 0 0
  subst hP9
  exact j_vret (pc := 9) (jd k_Square_init 6 rfl) rfl ⟨rfl, rfl⟩

set_option maxRecDepth 20000 in
theorem c_Group_init_3_4000_140_1362 (G : jG) (a : Nat) (b1 : Nat) : jCon G m_Group_init y_Group_init 0 0 0 [.ref a, .ref b1, .int 4000, .int 140, .int 1362] [(a, .inr (3, [.null, .int 0, .int 0, .int 0, .null]))] (fun r w => r = (.inl none : jR) ∧ w = ([(a, .inr (3, [.ref b1, .int 4000, .int 140, .int 1362, .null]))] : va_W)) := by
  refine jCon.of (by decide +kernel) rfl rfl rfl (Nat.le_of_ble_eq_true rfl) rfl ?_
  generalize hP9 : (fun r w => r = (.inl none : jR) ∧ w = ([(a, .inr (3, [.ref b1, .int 4000, .int 140, .int 1362, .null]))] : va_W)) = P
  refine j_aload_n (pc := 0) 0 (jd k_Group_init 0 rfl) rfl ?_
  refine j_objinit (pc := 1) w153 w92 w93 (jd k_Group_init 1 rfl) (Nat.le_of_ble_eq_true rfl) ?_
  refine j_aload_n (pc := 4) 0 (jd k_Group_init 2 rfl) rfl ?_
  refine j_aload_n (pc := 5) 1 (jd k_Group_init 3 rfl) rfl ?_
  refine j_put (pc := 6) (fs := [.null, .int 0, .int 0, .int 0, .null]) (ws' := [(a, .inr (3, [.ref b1, .int 0, .int 0, .int 0, .null]))]) fp_Group_7_3 0 (jd k_Group_init 4 rfl) rfl rfl rfl (Nat.le_of_ble_eq_true rfl) rfl ?_
  refine j_aload_n (pc := 9) 0 (jd k_Group_init 5 rfl) rfl ?_
  refine j_iload_n (pc := 10) 2 (jd k_Group_init 6 rfl) rfl ?_
  refine j_put (pc := 11) (fs := [.ref b1, .int 0, .int 0, .int 0, .null]) (ws' := [(a, .inr (3, [.ref b1, .int 4000, .int 0, .int 0, .null]))]) fp_Group_13_3 0 (jd k_Group_init 7 rfl) rfl rfl rfl (Nat.le_of_ble_eq_true rfl) rfl ?_
  refine j_aload_n (pc := 14) 0 (jd k_Group_init 8 rfl) rfl ?_
  refine j_iload_n (pc := 15) 3 (jd k_Group_init 9 rfl) rfl ?_
  refine j_put (pc := 16) (fs := [.ref b1, .int 4000, .int 0, .int 0, .null]) (ws' := [(a, .inr (3, [.ref b1, .int 4000, .int 140, .int 0, .null]))]) fp_Group_17_3 0 (jd k_Group_init 10 rfl) rfl rfl rfl (Nat.le_of_ble_eq_true rfl) rfl ?_
  refine j_aload_n (pc := 19) 0 (jd k_Group_init 11 rfl) rfl ?_
  refine j_iload (pc := 20) 4 (jd k_Group_init 12 rfl) rfl ?_
  refine j_put (pc := 22) (fs := [.ref b1, .int 4000, .int 140, .int 0, .null]) (ws' := [(a, .inr (3, [.ref b1, .int 4000, .int 140, .int 1362, .null]))]) fp_Group_20_3 0 (jd k_Group_init 13 rfl) rfl rfl rfl (Nat.le_of_ble_eq_true rfl) rfl ?_
  subst hP9
  exact j_vret (pc := 25) (jd k_Group_init 14 rfl) rfl ⟨rfl, rfl⟩

set_option maxRecDepth 20000 in
theorem c_Sha_init (G : jG) (a : Nat) : jCon G m_Sha_init y_Sha_init 0 3 80 [.ref a] [(a, .inr (8, [.null, .null, .null]))] (fun r w => r = (.inl none : jR) ∧ ∃ q1 q2 q3 : Nat, w = ([(a, .inr (8, [.ref q1, .ref q2, .ref q3])), (q1, .inl (G.1 0, 64, .inl (fun _ => 0))), (q2, .inl (G.1 0, 8, .inl (fun _ => 0))), (q3, .inl (G.1 0, 8, .inl (fun _ => 0)))] : va_W)) := by
  refine jCon.of (by decide +kernel) rfl rfl rfl (Nat.le_of_ble_eq_true rfl) rfl ?_
  generalize hP9 : (fun r w => r = (.inl none : jR) ∧ ∃ q1 q2 q3 : Nat, w = ([(a, .inr (8, [.ref q1, .ref q2, .ref q3])), (q1, .inl (G.1 0, 64, .inl (fun _ => 0))), (q2, .inl (G.1 0, 8, .inl (fun _ => 0))), (q3, .inl (G.1 0, 8, .inl (fun _ => 0)))] : va_W)) = P
  refine j_aload_n (pc := 0) 0 (jd k_Sha_init 0 rfl) rfl ?_
  refine j_objinit (pc := 1) w203 w92 w93 (jd k_Sha_init 1 rfl) (Nat.le_of_ble_eq_true rfl) ?_
  refine j_aload_n (pc := 4) 0 (jd k_Sha_init 2 rfl) rfl ?_
  refine j_bipush (pc := 5) (v := 64) (jd k_Sha_init 3 rfl) (by decide) ?_
  refine j_newi (pc := 7) (N := 64) w142 (by decide) (by decide) (by decide) (jd k_Sha_init 4 rfl) (by decide) (by decide) (fun q1 => ?_)
  refine j_put (pc := 9) (fs := [.null, .null, .null]) (ws' := [(a, .inr (8, [.ref q1, .null, .null])), (q1, .inl (G.1 0, 64, .inl (fun _ => 0)))]) fp_Sha_9_8 0 (jd k_Sha_init 5 rfl) rfl rfl rfl (Nat.le_of_ble_eq_true rfl) rfl ?_
  refine j_aload_n (pc := 12) 0 (jd k_Sha_init 6 rfl) rfl ?_
  refine j_bipush (pc := 13) (v := 8) (jd k_Sha_init 7 rfl) (by decide) ?_
  refine j_newi (pc := 15) (N := 8) w142 (by decide) (by decide) (by decide) (jd k_Sha_init 8 rfl) (by decide) (by decide) (fun q2 => ?_)
  refine j_put (pc := 17) (fs := [.ref q1, .null, .null]) (ws' := [(a, .inr (8, [.ref q1, .ref q2, .null])), (q1, .inl (G.1 0, 64, .inl (fun _ => 0))), (q2, .inl (G.1 0, 8, .inl (fun _ => 0)))]) fp_Sha_13_8 0 (jd k_Sha_init 9 rfl) rfl rfl rfl (Nat.le_of_ble_eq_true rfl) rfl ?_
  refine j_aload_n (pc := 20) 0 (jd k_Sha_init 10 rfl) rfl ?_
  refine j_bipush (pc := 21) (v := 8) (jd k_Sha_init 11 rfl) (by decide) ?_
  refine j_newi (pc := 23) (N := 8) w142 (by decide) (by decide) (by decide) (jd k_Sha_init 12 rfl) (by decide) (by decide) (fun q3 => ?_)
  refine j_put (pc := 25) (fs := [.ref q1, .ref q2, .null]) (ws' := [(a, .inr (8, [.ref q1, .ref q2, .ref q3])), (q1, .inl (G.1 0, 64, .inl (fun _ => 0))), (q2, .inl (G.1 0, 8, .inl (fun _ => 0))), (q3, .inl (G.1 0, 8, .inl (fun _ => 0)))]) fp_Sha_16_8 0 (jd k_Sha_init 13 rfl) rfl rfl rfl (Nat.le_of_ble_eq_true rfl) rfl ?_
  subst hP9
  exact j_vret (pc := 28) (jd k_Sha_init 14 rfl) rfl ⟨rfl, q1, q2, q3, rfl⟩

set_option maxRecDepth 20000 in
theorem c_Board_init (G : jG) (a : Nat) : jCon G m_Board_init y_Board_init 1 5 1133 [.ref a] [(a, .inr (1, [.null, .null, .int 0]))] (fun r w => r = (.inl none : jR) ∧ ∃ q1 q2 q3 q4 q5 : Nat, w = ([(a, .inr (1, [.ref q1, .ref q2, .int 0])), (q1, .inl (G.1 1, 1050, .inl (fun _ => 0))), (q2, .inr (8, [.ref q3, .ref q4, .ref q5])), (q3, .inl (G.1 0, 64, .inl (fun _ => 0))), (q4, .inl (G.1 0, 8, .inl (fun _ => 0))), (q5, .inl (G.1 0, 8, .inl (fun _ => 0)))] : va_W)) := by
  refine jCon.of (by decide +kernel) rfl rfl rfl (Nat.le_of_ble_eq_true rfl) rfl ?_
  generalize hP9 : (fun r w => r = (.inl none : jR) ∧ ∃ q1 q2 q3 q4 q5 : Nat, w = ([(a, .inr (1, [.ref q1, .ref q2, .int 0])), (q1, .inl (G.1 1, 1050, .inl (fun _ => 0))), (q2, .inr (8, [.ref q3, .ref q4, .ref q5])), (q3, .inl (G.1 0, 64, .inl (fun _ => 0))), (q4, .inl (G.1 0, 8, .inl (fun _ => 0))), (q5, .inl (G.1 0, 8, .inl (fun _ => 0)))] : va_W)) = P
  refine j_aload_n (pc := 0) 0 (jd k_Board_init 0 rfl) rfl ?_
  refine j_objinit (pc := 1) w197 w92 w93 (jd k_Board_init 1 rfl) (Nat.le_of_ble_eq_true rfl) ?_
  refine j_aload_n (pc := 4) 0 (jd k_Board_init 2 rfl) rfl ?_
  refine j_sipush (pc := 5) (v := 1050) (jd k_Board_init 3 rfl) (by decide) ?_
  refine j_newb (pc := 8) (N := 1050) w214 (by decide) (by decide) (by decide) (jd k_Board_init 4 rfl) (by decide) (by decide) (fun q1 => ?_)
  refine j_put (pc := 10) (fs := [.null, .null, .int 0]) (ws' := [(a, .inr (1, [.ref q1, .null, .int 0])), (q1, .inl (G.1 1, 1050, .inl (fun _ => 0)))]) fp_Board_9_1 0 (jd k_Board_init 5 rfl) rfl rfl rfl (Nat.le_of_ble_eq_true rfl) rfl ?_
  refine j_aload_n (pc := 13) 0 (jd k_Board_init 6 rfl) rfl ?_
  refine j_new (pc := 14) (fs := [.null, .null, .null]) (ci := 8) rfl in_Sha tk_Sha w198 w199 w73 df_Sha (jd k_Board_init 7 rfl) (by decide) (by decide) (fun q2 => ?_)
  refine j_dup (pc := 17) (jd k_Board_init 8 rfl) rfl ?_
  show J G m_Board_init 1 5 1133 P 18 [(0, .ref a)] [.ref q2, .ref q2, .ref a] ([(a, .inr (1, [.ref q1, .null, .int 0])), (q1, .inl (G.1 1, 1050, .inl (fun _ => 0)))] ++ [(q2, .inr (8, [.null, .null, .null]))]) 2 1053
  refine j_callIN (pc := 18) (d := 1) (mc := 5) (ms := 1133) (k := 2) (n := 1053) (st := [.ref q2, .ref a]) (jCon.frL (c_Sha_init G q2) [(a, .inr (1, [.ref q1, .null, .int 0])), (q1, .inl (G.1 1, 1050, .inl (fun _ => 0)))]) L0_Sha_init rfl wt200 w201 rfl (jd k_Board_init 9 rfl) rfl (Nat.le_of_ble_eq_true rfl) (by decide) (by decide) (by decide) rfl (fun E w h => by obtain ⟨w0, -, h, -⟩ := h; cases h) (fun v w h => ?_)
  obtain ⟨w0, hw, hv, q3, q4, q5, hq⟩ := h
  cases hv
  subst hq
  subst hw
  show J G m_Board_init 1 5 1133 P 21 [(0, .ref a)] [.ref q2, .ref a] [(a, .inr (1, [.ref q1, .null, .int 0])), (q1, .inl (G.1 1, 1050, .inl (fun _ => 0))), (q2, .inr (8, [.ref q3, .ref q4, .ref q5])), (q3, .inl (G.1 0, 64, .inl (fun _ => 0))), (q4, .inl (G.1 0, 8, .inl (fun _ => 0))), (q5, .inl (G.1 0, 8, .inl (fun _ => 0)))] 5 1133
  refine j_put (pc := 21) (fs := [.ref q1, .null, .int 0]) (ws' := [(a, .inr (1, [.ref q1, .ref q2, .int 0])), (q1, .inl (G.1 1, 1050, .inl (fun _ => 0))), (q2, .inr (8, [.ref q3, .ref q4, .ref q5])), (q3, .inl (G.1 0, 64, .inl (fun _ => 0))), (q4, .inl (G.1 0, 8, .inl (fun _ => 0))), (q5, .inl (G.1 0, 8, .inl (fun _ => 0)))]) fp_Board_16_1 0 (jd k_Board_init 10 rfl) rfl rfl rfl (Nat.le_of_ble_eq_true rfl) rfl ?_
  subst hP9
  exact j_vret (pc := 24) (jd k_Board_init 11 rfl) rfl ⟨rfl, q1, q2, q3, q4, q5, rfl⟩

set_option maxRecDepth 20000 in
theorem c_Party_init (G : jG) (a : Nat) : jCon G m_Party_init y_Party_init 0 14 77 [.ref a] [(a, .inr (4, [.null, .null, .null, .null, .null, .null, .int 0, .int 0, .int 0, .int 0]))] (fun r w => r = (.inl none : jR) ∧ ∃ q1 q2 q3 q4 q5 q6 q7 q8 q9 q10 q11 q12 q13 q14 : Nat, w = ([(a, .inr (4, [.ref q1, .ref q4, .ref q5, .ref q8, .ref q11, .ref q14, .int 0, .int 0, .int 0, .int 0])), (q1, .inl (G.1 6, rT2 q2 q3)), (q2, .inl (G.1 0, 7, .inl (fun _ => 0))), (q3, .inl (G.1 0, 7, .inl (fun _ => 0))), (q4, .inl (G.1 0, 7, .inl (fun _ => 0))), (q5, .inl (G.1 6, rT2 q6 q7)), (q6, .inl (G.1 0, 7, .inl (fun _ => 0))), (q7, .inl (G.1 0, 7, .inl (fun _ => 0))), (q8, .inl (G.1 6, rT2 q9 q10)), (q9, .inl (G.1 0, 8, .inl (fun _ => 0))), (q10, .inl (G.1 0, 8, .inl (fun _ => 0))), (q11, .inl (G.1 6, rT2 q12 q13)), (q12, .inl (G.1 0, 8, .inl (fun _ => 0))), (q13, .inl (G.1 0, 8, .inl (fun _ => 0))), (q14, .inl (G.1 0, 2, .inl (fun _ => 0)))] : va_W)) := by
  refine jCon.of (by decide +kernel) rfl rfl rfl (Nat.le_of_ble_eq_true rfl) rfl ?_
  generalize hP9 : (fun r w => r = (.inl none : jR) ∧ ∃ q1 q2 q3 q4 q5 q6 q7 q8 q9 q10 q11 q12 q13 q14 : Nat, w = ([(a, .inr (4, [.ref q1, .ref q4, .ref q5, .ref q8, .ref q11, .ref q14, .int 0, .int 0, .int 0, .int 0])), (q1, .inl (G.1 6, rT2 q2 q3)), (q2, .inl (G.1 0, 7, .inl (fun _ => 0))), (q3, .inl (G.1 0, 7, .inl (fun _ => 0))), (q4, .inl (G.1 0, 7, .inl (fun _ => 0))), (q5, .inl (G.1 6, rT2 q6 q7)), (q6, .inl (G.1 0, 7, .inl (fun _ => 0))), (q7, .inl (G.1 0, 7, .inl (fun _ => 0))), (q8, .inl (G.1 6, rT2 q9 q10)), (q9, .inl (G.1 0, 8, .inl (fun _ => 0))), (q10, .inl (G.1 0, 8, .inl (fun _ => 0))), (q11, .inl (G.1 6, rT2 q12 q13)), (q12, .inl (G.1 0, 8, .inl (fun _ => 0))), (q13, .inl (G.1 0, 8, .inl (fun _ => 0))), (q14, .inl (G.1 0, 2, .inl (fun _ => 0)))] : va_W)) = P
  refine j_aload_n (pc := 0) 0 (jd k_Party_init 0 rfl) rfl ?_
  refine j_objinit (pc := 1) w233 w92 w93 (jd k_Party_init 1 rfl) (Nat.le_of_ble_eq_true rfl) ?_
  refine j_aload_n (pc := 4) 0 (jd k_Party_init 2 rfl) rfl ?_
  refine j_iconst (pc := 5) (v := 2) (jd k_Party_init 3 rfl) (by decide) ?_
  refine j_bipush (pc := 6) (v := 7) (jd k_Party_init 4 rfl) (by decide) ?_
  refine j_mna2 (pc := 8) (K0 := 7) w234 wt235 w142 (by decide) (by decide) (by decide) (jd k_Party_init 5 rfl) (by decide) (by decide) (fun q1 q2 q3 => ?_)
  refine j_put (pc := 12) (fs := [.null, .null, .null, .null, .null, .null, .int 0, .int 0, .int 0, .int 0]) (ws' := [(a, .inr (4, [.ref q1, .null, .null, .null, .null, .null, .int 0, .int 0, .int 0, .int 0])), (q1, .inl (G.1 6, rT2 q2 q3)), (q2, .inl (G.1 0, 7, .inl (fun _ => 0))), (q3, .inl (G.1 0, 7, .inl (fun _ => 0)))]) fp_Party_11_4 0 (jd k_Party_init 6 rfl) rfl rfl rfl (Nat.le_of_ble_eq_true rfl) rfl ?_
  refine j_aload_n (pc := 15) 0 (jd k_Party_init 7 rfl) rfl ?_
  refine j_bipush (pc := 16) (v := 7) (jd k_Party_init 8 rfl) (by decide) ?_
  refine j_newi (pc := 18) (N := 7) w142 (by decide) (by decide) (by decide) (jd k_Party_init 9 rfl) (by decide) (by decide) (fun q4 => ?_)
  refine j_put (pc := 20) (fs := [.ref q1, .null, .null, .null, .null, .null, .int 0, .int 0, .int 0, .int 0]) (ws' := [(a, .inr (4, [.ref q1, .ref q4, .null, .null, .null, .null, .int 0, .int 0, .int 0, .int 0])), (q1, .inl (G.1 6, rT2 q2 q3)), (q2, .inl (G.1 0, 7, .inl (fun _ => 0))), (q3, .inl (G.1 0, 7, .inl (fun _ => 0))), (q4, .inl (G.1 0, 7, .inl (fun _ => 0)))]) fp_Party_16_4 0 (jd k_Party_init 10 rfl) rfl rfl rfl (Nat.le_of_ble_eq_true rfl) rfl ?_
  refine j_aload_n (pc := 23) 0 (jd k_Party_init 11 rfl) rfl ?_
  refine j_iconst (pc := 24) (v := 2) (jd k_Party_init 12 rfl) (by decide) ?_
  refine j_bipush (pc := 25) (v := 7) (jd k_Party_init 13 rfl) (by decide) ?_
  refine j_mna2 (pc := 27) (K0 := 7) w234 wt235 w142 (by decide) (by decide) (by decide) (jd k_Party_init 14 rfl) (by decide) (by decide) (fun q5 q6 q7 => ?_)
  refine j_put (pc := 31) (fs := [.ref q1, .ref q4, .null, .null, .null, .null, .int 0, .int 0, .int 0, .int 0]) (ws' := [(a, .inr (4, [.ref q1, .ref q4, .ref q5, .null, .null, .null, .int 0, .int 0, .int 0, .int 0])), (q1, .inl (G.1 6, rT2 q2 q3)), (q2, .inl (G.1 0, 7, .inl (fun _ => 0))), (q3, .inl (G.1 0, 7, .inl (fun _ => 0))), (q4, .inl (G.1 0, 7, .inl (fun _ => 0))), (q5, .inl (G.1 6, rT2 q6 q7)), (q6, .inl (G.1 0, 7, .inl (fun _ => 0))), (q7, .inl (G.1 0, 7, .inl (fun _ => 0)))]) fp_Party_20_4 0 (jd k_Party_init 15 rfl) rfl rfl rfl (Nat.le_of_ble_eq_true rfl) rfl ?_
  refine j_aload_n (pc := 34) 0 (jd k_Party_init 16 rfl) rfl ?_
  refine j_iconst (pc := 35) (v := 2) (jd k_Party_init 17 rfl) (by decide) ?_
  refine j_bipush (pc := 36) (v := 8) (jd k_Party_init 18 rfl) (by decide) ?_
  refine j_mna2 (pc := 38) (K0 := 8) w234 wt235 w142 (by decide) (by decide) (by decide) (jd k_Party_init 19 rfl) (by decide) (by decide) (fun q8 q9 q10 => ?_)
  refine j_put (pc := 42) (fs := [.ref q1, .ref q4, .ref q5, .null, .null, .null, .int 0, .int 0, .int 0, .int 0]) (ws' := [(a, .inr (4, [.ref q1, .ref q4, .ref q5, .ref q8, .null, .null, .int 0, .int 0, .int 0, .int 0])), (q1, .inl (G.1 6, rT2 q2 q3)), (q2, .inl (G.1 0, 7, .inl (fun _ => 0))), (q3, .inl (G.1 0, 7, .inl (fun _ => 0))), (q4, .inl (G.1 0, 7, .inl (fun _ => 0))), (q5, .inl (G.1 6, rT2 q6 q7)), (q6, .inl (G.1 0, 7, .inl (fun _ => 0))), (q7, .inl (G.1 0, 7, .inl (fun _ => 0))), (q8, .inl (G.1 6, rT2 q9 q10)), (q9, .inl (G.1 0, 8, .inl (fun _ => 0))), (q10, .inl (G.1 0, 8, .inl (fun _ => 0)))]) fp_Party_23_4 0 (jd k_Party_init 20 rfl) rfl rfl rfl (Nat.le_of_ble_eq_true rfl) rfl ?_
  refine j_aload_n (pc := 45) 0 (jd k_Party_init 21 rfl) rfl ?_
  refine j_iconst (pc := 46) (v := 2) (jd k_Party_init 22 rfl) (by decide) ?_
  refine j_bipush (pc := 47) (v := 8) (jd k_Party_init 23 rfl) (by decide) ?_
  refine j_mna2 (pc := 49) (K0 := 8) w234 wt235 w142 (by decide) (by decide) (by decide) (jd k_Party_init 24 rfl) (by decide) (by decide) (fun q11 q12 q13 => ?_)
  refine j_put (pc := 53) (fs := [.ref q1, .ref q4, .ref q5, .ref q8, .null, .null, .int 0, .int 0, .int 0, .int 0]) (ws' := [(a, .inr (4, [.ref q1, .ref q4, .ref q5, .ref q8, .ref q11, .null, .int 0, .int 0, .int 0, .int 0])), (q1, .inl (G.1 6, rT2 q2 q3)), (q2, .inl (G.1 0, 7, .inl (fun _ => 0))), (q3, .inl (G.1 0, 7, .inl (fun _ => 0))), (q4, .inl (G.1 0, 7, .inl (fun _ => 0))), (q5, .inl (G.1 6, rT2 q6 q7)), (q6, .inl (G.1 0, 7, .inl (fun _ => 0))), (q7, .inl (G.1 0, 7, .inl (fun _ => 0))), (q8, .inl (G.1 6, rT2 q9 q10)), (q9, .inl (G.1 0, 8, .inl (fun _ => 0))), (q10, .inl (G.1 0, 8, .inl (fun _ => 0))), (q11, .inl (G.1 6, rT2 q12 q13)), (q12, .inl (G.1 0, 8, .inl (fun _ => 0))), (q13, .inl (G.1 0, 8, .inl (fun _ => 0)))]) fp_Party_26_4 0 (jd k_Party_init 25 rfl) rfl rfl rfl (Nat.le_of_ble_eq_true rfl) rfl ?_
  refine j_aload_n (pc := 56) 0 (jd k_Party_init 26 rfl) rfl ?_
  refine j_iconst (pc := 57) (v := 2) (jd k_Party_init 27 rfl) (by decide) ?_
  refine j_newi (pc := 58) (N := 2) w142 (by decide) (by decide) (by decide) (jd k_Party_init 28 rfl) (by decide) (by decide) (fun q14 => ?_)
  refine j_put (pc := 60) (fs := [.ref q1, .ref q4, .ref q5, .ref q8, .ref q11, .null, .int 0, .int 0, .int 0, .int 0]) (ws' := [(a, .inr (4, [.ref q1, .ref q4, .ref q5, .ref q8, .ref q11, .ref q14, .int 0, .int 0, .int 0, .int 0])), (q1, .inl (G.1 6, rT2 q2 q3)), (q2, .inl (G.1 0, 7, .inl (fun _ => 0))), (q3, .inl (G.1 0, 7, .inl (fun _ => 0))), (q4, .inl (G.1 0, 7, .inl (fun _ => 0))), (q5, .inl (G.1 6, rT2 q6 q7)), (q6, .inl (G.1 0, 7, .inl (fun _ => 0))), (q7, .inl (G.1 0, 7, .inl (fun _ => 0))), (q8, .inl (G.1 6, rT2 q9 q10)), (q9, .inl (G.1 0, 8, .inl (fun _ => 0))), (q10, .inl (G.1 0, 8, .inl (fun _ => 0))), (q11, .inl (G.1 6, rT2 q12 q13)), (q12, .inl (G.1 0, 8, .inl (fun _ => 0))), (q13, .inl (G.1 0, 8, .inl (fun _ => 0))), (q14, .inl (G.1 0, 2, .inl (fun _ => 0)))]) fp_Party_29_4 0 (jd k_Party_init 29 rfl) rfl rfl rfl (Nat.le_of_ble_eq_true rfl) rfl ?_
  subst hP9
  exact j_vret (pc := 63) (jd k_Party_init 30 rfl) rfl ⟨rfl, q1, q2, q3, q4, q5, q6, q7, q8, q9, q10, q11, q12, q13, q14, rfl⟩

