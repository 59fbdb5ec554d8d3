set_option maxRecDepth 20000 in
theorem c_Curve_init (G : jG) (a : Nat) (b1 : Nat) : jCon G m_Curve_init y_Curve_init 1 1 43 [.ref a, .ref b1] [(a, .inr (3, [.null, .int 0, .int 0, .int 0, .null]))] (fun r w => r = (.inl none : jR) ∧ ∃ q1 : Nat, w = ([(a, .inr (3, [.ref b1, .int 4000, .int 140, .int 1362, .ref q1])), (q1, .inl (G.1 0, 43, .inl (invT)))] : va_W)) := by
  refine jCon.of (by decide +kernel) rfl rfl rfl (Nat.le_of_ble_eq_true rfl) rfl ?_
  generalize hP9 : (fun r w => r = (.inl none : jR) ∧ ∃ q1 : Nat, w = ([(a, .inr (3, [.ref b1, .int 4000, .int 140, .int 1362, .ref q1])), (q1, .inl (G.1 0, 43, .inl (invT)))] : va_W)) = P
  refine j_aload_n (pc := 0) 0 (jd k_Curve_init 0 rfl) rfl ?_
  refine j_aload_n (pc := 1) 1 (jd k_Curve_init 1 rfl) rfl ?_
  refine j_sipush (pc := 2) (v := 4000) (jd k_Curve_init 2 rfl) (by decide) ?_
  refine j_sipush (pc := 5) (v := 140) (jd k_Curve_init 3 rfl) (by decide) ?_
  refine j_sipush (pc := 8) (v := 1362) (jd k_Curve_init 4 rfl) (by decide) ?_
  show J G m_Curve_init 1 1 43 P 11 [(0, .ref a), (1, .ref b1)] [.int 1362, .int 140, .int 4000, .ref b1, .ref a] ([] ++ [(a, .inr (3, [.null, .int 0, .int 0, .int 0, .null]))]) 0 0
  refine j_callI (pc := 11) (d := 1) (mc := 1) (ms := 43) (k := 0) (n := 0) (st := []) (jCon.frL (c_Group_init_3_4000_140_1362 G a b1) []) L0_Group_init rfl w177 w151 rfl (jd k_Curve_init 5 rfl) rfl (Nat.le_of_ble_eq_true rfl) (by decide) (by decide) (by decide) rfl (fun E w h => by obtain ⟨w0, -, h, -⟩ := h; cases h) (fun v w h => ?_)
  obtain ⟨w0, hw, hv, hq⟩ := h
  cases hv
  subst hq
  subst hw
  show J G m_Curve_init 1 1 43 P 14 [(0, .ref a), (1, .ref b1)] [] [(a, .inr (3, [.ref b1, .int 4000, .int 140, .int 1362, .null]))] 0 0
  refine j_aload_n (pc := 14) 0 (jd k_Curve_init 6 rfl) rfl ?_
  refine j_bipush (pc := 15) (v := 43) (jd k_Curve_init 7 rfl) (by decide) ?_
  refine j_newi (pc := 17) (N := 43) w142 (by decide) (by decide) (by decide) (jd k_Curve_init 8 rfl) (by decide) (by decide) (fun q1 => ?_)
  refine j_put (pc := 19) (fs := [.ref b1, .int 4000, .int 140, .int 1362, .null]) (ws' := [(a, .inr (3, [.ref b1, .int 4000, .int 140, .int 1362, .ref q1])), (q1, .inl (G.1 0, 43, .inl (fun _ => 0)))]) fp_Curve_9_3 0 (jd k_Curve_init 9 rfl) rfl rfl rfl (Nat.le_of_ble_eq_true rfl) rfl ?_
  obtain ⟨r9, hr9, he9⟩ := curve_table
  refine w_Curve_init a b1 q1 (fun _ => 0) r9 hr9 ?_
  refine j_ext (ws' := [(a, .inr (3, [.ref b1, .int 4000, .int 140, .int 1362, .ref q1])), (q1, .inl (G.1 0, 43, .inl (invT)))]) 1 q1 43 (G.1 0) r9 invT rfl he9 rfl ?_
  subst hP9
  exact j_vret (pc := 67) (jd k_Curve_init 36 rfl) rfl ⟨rfl, q1, rfl⟩

