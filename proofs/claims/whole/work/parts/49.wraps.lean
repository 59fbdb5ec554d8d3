set_option maxRecDepth 20000 in
theorem d_field_ok (ad : Nat → Nat) (G : jG) (p0 : Int32) (s : jU) (s2 : jU) (H : f_SR_field p0 s = some (.inr s2)) : jConW G m_Law_field y_Law_field 5 1 6 [.ref (ad 0), .int p0] (mkC ad G s) (jEq (some (.int 0)) (mkC ad G s2)) := by
  refine jConW.of (by decide +kernel) rfl rfl (Nat.le_of_ble_eq_true rfl) rfl ?_
  refine j_aload_n (pc := 0) 0 (jd k_Law_field 0 rfl) rfl ?_
  refine j_iload_n (pc := 1) 1 (jd k_Law_field 1 rfl) rfl ?_
  refine jq_V (pc := 2) (st := []) (jCon.post (c_SR_field ad G p0 s (.inr s2) H) (fun r w h => (h : jEq none (mkC ad G s2) r w))) L0_SR_field w440 w441 w442 0 rfl rfl (jd k_Law_field 2 rfl) rfl (Nat.le_of_ble_eq_true rfl) (by decide) (by decide) (by decide) rfl rfl ?_
  refine j_goto (pc := 5) (tgt := 11) (jd k_Law_field 3 rfl) rfl ?_
  refine j_iconst (pc := 11) (v := 0) (jd k_Law_field 7 rfl) (by decide) ?_
  exact j_iret (pc := 12) (jd k_Law_field 8 rfl) rfl rfl ⟨rfl, rfl⟩

set_option maxRecDepth 20000 in
theorem d_field_IAE (ad : Nat → Nat) (G : jG) (p0 : Int32) (s : jU) (H : f_SR_field p0 s = some (.inl "java/lang/IllegalArgumentException")) : jConW G m_Law_field y_Law_field 5 1 6 [.ref (ad 0), .int p0] (mkC ad G s) (jEq (some (.int 1)) (mkC ad G s)) := by
  refine jConW.of (by decide +kernel) rfl rfl (Nat.le_of_ble_eq_true rfl) rfl ?_
  refine j_aload_n (pc := 0) 0 (jd k_Law_field 0 rfl) rfl ?_
  refine j_iload_n (pc := 1) 1 (jd k_Law_field 1 rfl) rfl ?_
  refine j_cat1V (pc := 2) (st := []) (jCon.post (c_SR_field ad G p0 s (.inl "java/lang/IllegalArgumentException") H) (fun r w h => (h : jTw "java/lang/IllegalArgumentException" (mkC ad G s) r w))) L0_SR_field w440 w441 w442 0 rfl rfl (jd k_Law_field 2 rfl) rfl (Nat.le_of_ble_eq_true rfl) (by decide) (by decide) (by decide) rfl rfl (by decide) wt439 wt446 (fun x => ?_)
  refine j_astore_n (pc := 8) (lv' := [(0, .ref (ad 0)), (1, .int p0), (2, .ref x)]) (jd k_Law_field 4 rfl) rfl (Nat.le_of_ble_eq_true rfl) rfl ?_
  refine j_iconst (pc := 9) (v := 1) (jd k_Law_field 5 rfl) (by decide) ?_
  exact j_iret (pc := 10) (jd k_Law_field 6 rfl) rfl rfl ⟨rfl, rfl⟩

set_option maxRecDepth 20000 in
theorem d_point_ok (ad : Nat → Nat) (G : jG) (p0 : Int32) (p1 : Int32) (s : jU) (o : Nat) (L : Nat → Int64) (v : Int32) (s2 : jU) (H : f_SR_point p0 p1 s = some (.inr (v, s2))) : jConW G m_Law_point y_Law_point 5 1 6 [.ref (ad 0), .int p0, .int p1, .ref o] (mkC ad G s ++ [(o, .inl (G.1 2, 1, .inr (.inl L)))]) (jEq (some (.int 0)) (mkC ad G s2 ++ [(o, .inl (G.1 2, 1, .inr (.inl (vp_updL L (0 : Int32).toNatClampNeg v.toInt64))))])) := by
  refine jConW.of (by decide +kernel) rfl rfl (Nat.le_of_ble_eq_true rfl) rfl ?_
  refine j_aload_n (pc := 0) 3 (jd k_Law_point 0 rfl) rfl ?_
  refine j_iconst (pc := 1) (v := 0) (jd k_Law_point 1 rfl) (by decide) ?_
  refine j_aload_n (pc := 2) 0 (jd k_Law_point 2 rfl) rfl ?_
  refine j_iload_n (pc := 3) 1 (jd k_Law_point 3 rfl) rfl ?_
  refine j_iload_n (pc := 4) 2 (jd k_Law_point 4 rfl) rfl ?_
  refine jq_V (pc := 5) (st := [.int 0, .ref o]) (jCon.post (jCon.frR (c_SR_point ad G p0 p1 s (.inr (v, s2)) H) [(o, .inl (G.1 2, 1, .inr (.inl L)))]) (fun r w h => (jFrR.eq h : jEq (some (.int v)) (mkC ad G s2 ++ [(o, .inl (G.1 2, 1, .inr (.inl L)))]) r w))) L0_SR_point w519 w520 w521 0 rfl rfl (jd k_Law_point 5 rfl) rfl (Nat.le_of_ble_eq_true rfl) (by decide) (by decide) (by decide) rfl rfl ?_
  refine j_i2l (pc := 8) (jd k_Law_point 6 rfl) ?_
  refine j_last (pc := 9) (f := L) (ws' := (mkC ad G s2 ++ [(o, .inl (G.1 2, 1, .inr (.inl (vp_updL L (0 : Int32).toNatClampNeg v.toInt64))))])) 131 (jd k_Law_point 7 rfl) rfl (jin.vp (by decide)) rfl ?_
  refine j_goto (pc := 10) (tgt := 21) (jd k_Law_point 8 rfl) rfl ?_
  refine j_iconst (pc := 21) (v := 0) (jd k_Law_point 15 rfl) (by decide) ?_
  exact j_iret (pc := 22) (jd k_Law_point 16 rfl) rfl rfl ⟨rfl, rfl⟩

set_option maxRecDepth 20000 in
theorem d_point_IAE (ad : Nat → Nat) (G : jG) (p0 : Int32) (p1 : Int32) (s : jU) (o : Nat) (L : Nat → Int64) (H : f_SR_point p0 p1 s = some (.inl "java/lang/IllegalArgumentException")) : jConW G m_Law_point y_Law_point 5 1 6 [.ref (ad 0), .int p0, .int p1, .ref o] (mkC ad G s ++ [(o, .inl (G.1 2, 1, .inr (.inl L)))]) (jEq (some (.int 1)) (mkC ad G s ++ [(o, .inl (G.1 2, 1, .inr (.inl L)))])) := by
  refine jConW.of (by decide +kernel) rfl rfl (Nat.le_of_ble_eq_true rfl) rfl ?_
  refine j_aload_n (pc := 0) 3 (jd k_Law_point 0 rfl) rfl ?_
  refine j_iconst (pc := 1) (v := 0) (jd k_Law_point 1 rfl) (by decide) ?_
  refine j_aload_n (pc := 2) 0 (jd k_Law_point 2 rfl) rfl ?_
  refine j_iload_n (pc := 3) 1 (jd k_Law_point 3 rfl) rfl ?_
  refine j_iload_n (pc := 4) 2 (jd k_Law_point 4 rfl) rfl ?_
  refine j_cat1V (pc := 5) (st := [.int 0, .ref o]) (jCon.post (jCon.frR (c_SR_point ad G p0 p1 s (.inl "java/lang/IllegalArgumentException") H) [(o, .inl (G.1 2, 1, .inr (.inl L)))]) (fun r w h => (jFrR.tw h : jTw "java/lang/IllegalArgumentException" (mkC ad G s ++ [(o, .inl (G.1 2, 1, .inr (.inl L)))]) r w))) L0_SR_point w519 w520 w521 0 rfl rfl (jd k_Law_point 5 rfl) rfl (Nat.le_of_ble_eq_true rfl) (by decide) (by decide) (by decide) rfl rfl (by decide) wt439 wt446 (fun x => ?_)
  refine j_astore (pc := 13) (lv' := [(0, .ref (ad 0)), (1, .int p0), (2, .int p1), (3, .ref o), (4, .ref x)]) (jd k_Law_point 9 rfl) rfl (Nat.le_of_ble_eq_true rfl) rfl ?_
  refine j_iconst (pc := 15) (v := 1) (jd k_Law_point 10 rfl) (by decide) ?_
  exact j_iret (pc := 16) (jd k_Law_point 11 rfl) rfl rfl ⟨rfl, rfl⟩

set_option maxRecDepth 20000 in
theorem d_point_ISE (ad : Nat → Nat) (G : jG) (p0 : Int32) (p1 : Int32) (s : jU) (o : Nat) (L : Nat → Int64) (H : f_SR_point p0 p1 s = some (.inl "java/lang/IllegalStateException")) : jConW G m_Law_point y_Law_point 5 1 6 [.ref (ad 0), .int p0, .int p1, .ref o] (mkC ad G s ++ [(o, .inl (G.1 2, 1, .inr (.inl L)))]) (jEq (some (.int 2)) (mkC ad G s ++ [(o, .inl (G.1 2, 1, .inr (.inl L)))])) := by
  refine jConW.of (by decide +kernel) rfl rfl (Nat.le_of_ble_eq_true rfl) rfl ?_
  refine j_aload_n (pc := 0) 3 (jd k_Law_point 0 rfl) rfl ?_
  refine j_iconst (pc := 1) (v := 0) (jd k_Law_point 1 rfl) (by decide) ?_
  refine j_aload_n (pc := 2) 0 (jd k_Law_point 2 rfl) rfl ?_
  refine j_iload_n (pc := 3) 1 (jd k_Law_point 3 rfl) rfl ?_
  refine j_iload_n (pc := 4) 2 (jd k_Law_point 4 rfl) rfl ?_
  refine j_cat2V (pc := 5) (st := [.int 0, .ref o]) (jCon.post (jCon.frR (c_SR_point ad G p0 p1 s (.inl "java/lang/IllegalStateException") H) [(o, .inl (G.1 2, 1, .inr (.inl L)))]) (fun r w h => (jFrR.tw h : jTw "java/lang/IllegalStateException" (mkC ad G s ++ [(o, .inl (G.1 2, 1, .inr (.inl L)))]) r w))) L0_SR_point w519 w520 w521 0 rfl rfl (jd k_Law_point 5 rfl) rfl (Nat.le_of_ble_eq_true rfl) (by decide) (by decide) (by decide) rfl rfl (by decide) (by decide) wt439 wt518 jnc12 wt544 (fun x => ?_)
  refine j_astore (pc := 17) (lv' := [(0, .ref (ad 0)), (1, .int p0), (2, .int p1), (3, .ref o), (4, .ref x)]) (jd k_Law_point 12 rfl) rfl (Nat.le_of_ble_eq_true rfl) rfl ?_
  refine j_iconst (pc := 19) (v := 2) (jd k_Law_point 13 rfl) (by decide) ?_
  exact j_iret (pc := 20) (jd k_Law_point 14 rfl) rfl rfl ⟨rfl, rfl⟩

set_option maxRecDepth 20000 in
theorem d_combine_ok (ad : Nat → Nat) (G : jG) (p0 : Int32) (s : jU) (o : Nat) (L : Nat → Int64) (v : Int32) (H : f_SR_combine p0 s = some (.inr v)) : jConW G m_Law_combine y_Law_combine 5 1 6 [.ref (ad 0), .int p0, .ref o] (mkC ad G s ++ [(o, .inl (G.1 2, 1, .inr (.inl L)))]) (jEq (some (.int 0)) (mkC ad G s ++ [(o, .inl (G.1 2, 1, .inr (.inl (vp_updL L (0 : Int32).toNatClampNeg v.toInt64))))])) := by
  refine jConW.of (by decide +kernel) rfl rfl (Nat.le_of_ble_eq_true rfl) rfl ?_
  refine j_aload_n (pc := 0) 2 (jd k_Law_combine 0 rfl) rfl ?_
  refine j_iconst (pc := 1) (v := 0) (jd k_Law_combine 1 rfl) (by decide) ?_
  refine j_aload_n (pc := 2) 0 (jd k_Law_combine 2 rfl) rfl ?_
  refine j_iload_n (pc := 3) 1 (jd k_Law_combine 3 rfl) rfl ?_
  refine jq_V (pc := 4) (st := [.int 0, .ref o]) (jCon.post (jCon.frR (c_SR_combine ad G p0 s (.inr v) H) [(o, .inl (G.1 2, 1, .inr (.inl L)))]) (fun r w h => (jFrR.eq h : jEq (some (.int v)) (mkC ad G s ++ [(o, .inl (G.1 2, 1, .inr (.inl L)))]) r w))) L0_SR_combine w569 w570 w571 0 rfl rfl (jd k_Law_combine 4 rfl) rfl (Nat.le_of_ble_eq_true rfl) (by decide) (by decide) (by decide) rfl rfl ?_
  refine j_i2l (pc := 7) (jd k_Law_combine 5 rfl) ?_
  refine j_last (pc := 8) (f := L) (ws' := (mkC ad G s ++ [(o, .inl (G.1 2, 1, .inr (.inl (vp_updL L (0 : Int32).toNatClampNeg v.toInt64))))])) 131 (jd k_Law_combine 6 rfl) rfl (jin.vp (by decide)) rfl ?_
  refine j_goto (pc := 9) (tgt := 18) (jd k_Law_combine 7 rfl) rfl ?_
  refine j_iconst (pc := 18) (v := 0) (jd k_Law_combine 14 rfl) (by decide) ?_
  exact j_iret (pc := 19) (jd k_Law_combine 15 rfl) rfl rfl ⟨rfl, rfl⟩

set_option maxRecDepth 20000 in
theorem d_combine_IAE (ad : Nat → Nat) (G : jG) (p0 : Int32) (s : jU) (o : Nat) (L : Nat → Int64) (H : f_SR_combine p0 s = some (.inl "java/lang/IllegalArgumentException")) : jConW G m_Law_combine y_Law_combine 5 1 6 [.ref (ad 0), .int p0, .ref o] (mkC ad G s ++ [(o, .inl (G.1 2, 1, .inr (.inl L)))]) (jEq (some (.int 1)) (mkC ad G s ++ [(o, .inl (G.1 2, 1, .inr (.inl L)))])) := by
  refine jConW.of (by decide +kernel) rfl rfl (Nat.le_of_ble_eq_true rfl) rfl ?_
  refine j_aload_n (pc := 0) 2 (jd k_Law_combine 0 rfl) rfl ?_
  refine j_iconst (pc := 1) (v := 0) (jd k_Law_combine 1 rfl) (by decide) ?_
  refine j_aload_n (pc := 2) 0 (jd k_Law_combine 2 rfl) rfl ?_
  refine j_iload_n (pc := 3) 1 (jd k_Law_combine 3 rfl) rfl ?_
  refine j_cat1V (pc := 4) (st := [.int 0, .ref o]) (jCon.post (jCon.frR (c_SR_combine ad G p0 s (.inl "java/lang/IllegalArgumentException") H) [(o, .inl (G.1 2, 1, .inr (.inl L)))]) (fun r w h => (jFrR.tw h : jTw "java/lang/IllegalArgumentException" (mkC ad G s ++ [(o, .inl (G.1 2, 1, .inr (.inl L)))]) r w))) L0_SR_combine w569 w570 w571 0 rfl rfl (jd k_Law_combine 4 rfl) rfl (Nat.le_of_ble_eq_true rfl) (by decide) (by decide) (by decide) rfl rfl (by decide) wt439 wt446 (fun x => ?_)
  refine j_astore_n (pc := 12) (lv' := [(0, .ref (ad 0)), (1, .int p0), (2, .ref o), (3, .ref x)]) (jd k_Law_combine 8 rfl) rfl (Nat.le_of_ble_eq_true rfl) rfl ?_
  refine j_iconst (pc := 13) (v := 1) (jd k_Law_combine 9 rfl) (by decide) ?_
  exact j_iret (pc := 14) (jd k_Law_combine 10 rfl) rfl rfl ⟨rfl, rfl⟩

set_option maxRecDepth 20000 in
theorem d_combine_ISE (ad : Nat → Nat) (G : jG) (p0 : Int32) (s : jU) (o : Nat) (L : Nat → Int64) (H : f_SR_combine p0 s = some (.inl "java/lang/IllegalStateException")) : jConW G m_Law_combine y_Law_combine 5 1 6 [.ref (ad 0), .int p0, .ref o] (mkC ad G s ++ [(o, .inl (G.1 2, 1, .inr (.inl L)))]) (jEq (some (.int 2)) (mkC ad G s ++ [(o, .inl (G.1 2, 1, .inr (.inl L)))])) := by
  refine jConW.of (by decide +kernel) rfl rfl (Nat.le_of_ble_eq_true rfl) rfl ?_
  refine j_aload_n (pc := 0) 2 (jd k_Law_combine 0 rfl) rfl ?_
  refine j_iconst (pc := 1) (v := 0) (jd k_Law_combine 1 rfl) (by decide) ?_
  refine j_aload_n (pc := 2) 0 (jd k_Law_combine 2 rfl) rfl ?_
  refine j_iload_n (pc := 3) 1 (jd k_Law_combine 3 rfl) rfl ?_
  refine j_cat2V (pc := 4) (st := [.int 0, .ref o]) (jCon.post (jCon.frR (c_SR_combine ad G p0 s (.inl "java/lang/IllegalStateException") H) [(o, .inl (G.1 2, 1, .inr (.inl L)))]) (fun r w h => (jFrR.tw h : jTw "java/lang/IllegalStateException" (mkC ad G s ++ [(o, .inl (G.1 2, 1, .inr (.inl L)))]) r w))) L0_SR_combine w569 w570 w571 0 rfl rfl (jd k_Law_combine 4 rfl) rfl (Nat.le_of_ble_eq_true rfl) (by decide) (by decide) (by decide) rfl rfl (by decide) (by decide) wt439 wt518 jnc12 wt544 (fun x => ?_)
  refine j_astore_n (pc := 15) (lv' := [(0, .ref (ad 0)), (1, .int p0), (2, .ref o), (3, .ref x)]) (jd k_Law_combine 11 rfl) rfl (Nat.le_of_ble_eq_true rfl) rfl ?_
  refine j_iconst (pc := 16) (v := 2) (jd k_Law_combine 12 rfl) (by decide) ?_
  exact j_iret (pc := 17) (jd k_Law_combine 13 rfl) rfl rfl ⟨rfl, rfl⟩

set_option maxRecDepth 20000 in
theorem d_begin_ok (ad : Nat → Nat) (G : jG) (p0 : Int32) (p1 : Int32) (p2 : Int32) (s : jU) (s2 : jU) (H : f_SR_begin p0 p1 p2 s = some (.inr s2)) : jConW G m_Law_begin y_Law_begin 5 1 6 [.ref (ad 0), .int p0, .int p1, .int p2] (mkC ad G s) (jEq (some (.int 0)) (mkC ad G s2)) := by
  refine jConW.of (by decide +kernel) rfl rfl (Nat.le_of_ble_eq_true rfl) rfl ?_
  refine j_aload_n (pc := 0) 0 (jd k_Law_begin 0 rfl) rfl ?_
  refine j_iload_n (pc := 1) 1 (jd k_Law_begin 1 rfl) rfl ?_
  refine j_iload_n (pc := 2) 2 (jd k_Law_begin 2 rfl) rfl ?_
  refine j_iload_n (pc := 3) 3 (jd k_Law_begin 3 rfl) rfl ?_
  refine jq_V (pc := 4) (st := []) (jCon.post (c_SR_begin ad G p0 p1 p2 s (.inr s2) H) (fun r w h => (h : jEq none (mkC ad G s2) r w))) L0_SR_begin w595 w596 w597 0 rfl rfl (jd k_Law_begin 4 rfl) rfl (Nat.le_of_ble_eq_true rfl) (by decide) (by decide) (by decide) rfl rfl ?_
  refine j_goto (pc := 7) (tgt := 14) (jd k_Law_begin 5 rfl) rfl ?_
  refine j_iconst (pc := 14) (v := 0) (jd k_Law_begin 9 rfl) (by decide) ?_
  exact j_iret (pc := 15) (jd k_Law_begin 10 rfl) rfl rfl ⟨rfl, rfl⟩

set_option maxRecDepth 20000 in
theorem d_begin_IAE (ad : Nat → Nat) (G : jG) (p0 : Int32) (p1 : Int32) (p2 : Int32) (s : jU) (H : f_SR_begin p0 p1 p2 s = some (.inl "java/lang/IllegalArgumentException")) : jConW G m_Law_begin y_Law_begin 5 1 6 [.ref (ad 0), .int p0, .int p1, .int p2] (mkC ad G s) (jEq (some (.int 1)) (mkC ad G s)) := by
  refine jConW.of (by decide +kernel) rfl rfl (Nat.le_of_ble_eq_true rfl) rfl ?_
  refine j_aload_n (pc := 0) 0 (jd k_Law_begin 0 rfl) rfl ?_
  refine j_iload_n (pc := 1) 1 (jd k_Law_begin 1 rfl) rfl ?_
  refine j_iload_n (pc := 2) 2 (jd k_Law_begin 2 rfl) rfl ?_
  refine j_iload_n (pc := 3) 3 (jd k_Law_begin 3 rfl) rfl ?_
  refine j_cat1V (pc := 4) (st := []) (jCon.post (c_SR_begin ad G p0 p1 p2 s (.inl "java/lang/IllegalArgumentException") H) (fun r w h => (h : jTw "java/lang/IllegalArgumentException" (mkC ad G s) r w))) L0_SR_begin w595 w596 w597 0 rfl rfl (jd k_Law_begin 4 rfl) rfl (Nat.le_of_ble_eq_true rfl) (by decide) (by decide) (by decide) rfl rfl (by decide) wt439 wt446 (fun x => ?_)
  refine j_astore (pc := 10) (lv' := [(0, .ref (ad 0)), (1, .int p0), (2, .int p1), (3, .int p2), (4, .ref x)]) (jd k_Law_begin 6 rfl) rfl (Nat.le_of_ble_eq_true rfl) rfl ?_
  refine j_iconst (pc := 12) (v := 1) (jd k_Law_begin 7 rfl) (by decide) ?_
  exact j_iret (pc := 13) (jd k_Law_begin 8 rfl) rfl rfl ⟨rfl, rfl⟩

set_option maxRecDepth 20000 in
theorem d_give_ok (ad : Nat → Nat) (G : jG) (p0 : Int32) (p1 : Int32) (p2 : Int32) (p3 : Int32) (s : jU) (s2 : jU) (H : f_SR_give p0 p1 p2 p3 s = some (.inr s2)) : jConW G m_Law_give y_Law_give 6 4 24 [.ref (ad 0), .int p0, .int p1, .int p2, .int p3] (mkC ad G s) (jEq (some (.int 0)) (mkC ad G s2)) := by
  refine jConW.of (by decide +kernel) rfl rfl (Nat.le_of_ble_eq_true rfl) rfl ?_
  refine j_aload_n (pc := 0) 0 (jd k_Law_give 0 rfl) rfl ?_
  refine j_iload_n (pc := 1) 1 (jd k_Law_give 1 rfl) rfl ?_
  refine j_iload_n (pc := 2) 2 (jd k_Law_give 2 rfl) rfl ?_
  refine j_iload_n (pc := 3) 3 (jd k_Law_give 3 rfl) rfl ?_
  refine j_iload (pc := 4) 4 (jd k_Law_give 4 rfl) rfl ?_
  refine jq_V (pc := 6) (st := []) (jCon.post (c_SR_give ad G p0 p1 p2 p3 s (.inr s2) H) (fun r w h => (h : jEq none (mkC ad G s2) r w))) L0_SR_give w629 w630 w631 0 rfl rfl (jd k_Law_give 5 rfl) rfl (Nat.le_of_ble_eq_true rfl) (by decide) (by decide) (by decide) rfl rfl ?_
  refine j_goto (pc := 9) (tgt := 20) (jd k_Law_give 6 rfl) rfl ?_
  refine j_iconst (pc := 20) (v := 0) (jd k_Law_give 13 rfl) (by decide) ?_
  exact j_iret (pc := 21) (jd k_Law_give 14 rfl) rfl rfl ⟨rfl, rfl⟩

set_option maxRecDepth 20000 in
theorem d_give_ISE (ad : Nat → Nat) (G : jG) (p0 : Int32) (p1 : Int32) (p2 : Int32) (p3 : Int32) (s : jU) (H : f_SR_give p0 p1 p2 p3 s = some (.inl "java/lang/IllegalStateException")) : jConW G m_Law_give y_Law_give 6 4 24 [.ref (ad 0), .int p0, .int p1, .int p2, .int p3] (mkC ad G s) (jEq (some (.int 1)) (mkC ad G s)) := by
  refine jConW.of (by decide +kernel) rfl rfl (Nat.le_of_ble_eq_true rfl) rfl ?_
  refine j_aload_n (pc := 0) 0 (jd k_Law_give 0 rfl) rfl ?_
  refine j_iload_n (pc := 1) 1 (jd k_Law_give 1 rfl) rfl ?_
  refine j_iload_n (pc := 2) 2 (jd k_Law_give 2 rfl) rfl ?_
  refine j_iload_n (pc := 3) 3 (jd k_Law_give 3 rfl) rfl ?_
  refine j_iload (pc := 4) 4 (jd k_Law_give 4 rfl) rfl ?_
  refine j_cat1V (pc := 6) (st := []) (jCon.post (c_SR_give ad G p0 p1 p2 p3 s (.inl "java/lang/IllegalStateException") H) (fun r w h => (h : jTw "java/lang/IllegalStateException" (mkC ad G s) r w))) L0_SR_give w629 w630 w631 0 rfl rfl (jd k_Law_give 5 rfl) rfl (Nat.le_of_ble_eq_true rfl) (by decide) (by decide) (by decide) rfl rfl (by decide) wt518 wt544 (fun x => ?_)
  refine j_astore (pc := 12) (lv' := [(0, .ref (ad 0)), (1, .int p0), (2, .int p1), (3, .int p2), (4, .int p3), (5, .ref x)]) (jd k_Law_give 7 rfl) rfl (Nat.le_of_ble_eq_true rfl) rfl ?_
  refine j_iconst (pc := 14) (v := 1) (jd k_Law_give 8 rfl) (by decide) ?_
  exact j_iret (pc := 15) (jd k_Law_give 9 rfl) rfl rfl ⟨rfl, rfl⟩

set_option maxRecDepth 20000 in
theorem d_give_IAE (ad : Nat → Nat) (G : jG) (p0 : Int32) (p1 : Int32) (p2 : Int32) (p3 : Int32) (s : jU) (H : f_SR_give p0 p1 p2 p3 s = some (.inl "java/lang/IllegalArgumentException")) : jConW G m_Law_give y_Law_give 6 4 24 [.ref (ad 0), .int p0, .int p1, .int p2, .int p3] (mkC ad G s) (jEq (some (.int 2)) (mkC ad G s)) := by
  refine jConW.of (by decide +kernel) rfl rfl (Nat.le_of_ble_eq_true rfl) rfl ?_
  refine j_aload_n (pc := 0) 0 (jd k_Law_give 0 rfl) rfl ?_
  refine j_iload_n (pc := 1) 1 (jd k_Law_give 1 rfl) rfl ?_
  refine j_iload_n (pc := 2) 2 (jd k_Law_give 2 rfl) rfl ?_
  refine j_iload_n (pc := 3) 3 (jd k_Law_give 3 rfl) rfl ?_
  refine j_iload (pc := 4) 4 (jd k_Law_give 4 rfl) rfl ?_
  refine j_cat2V (pc := 6) (st := []) (jCon.post (c_SR_give ad G p0 p1 p2 p3 s (.inl "java/lang/IllegalArgumentException") H) (fun r w h => (h : jTw "java/lang/IllegalArgumentException" (mkC ad G s) r w))) L0_SR_give w629 w630 w631 0 rfl rfl (jd k_Law_give 5 rfl) rfl (Nat.le_of_ble_eq_true rfl) (by decide) (by decide) (by decide) rfl rfl (by decide) (by decide) wt518 wt439 jnc21 wt446 (fun x => ?_)
  refine j_astore (pc := 16) (lv' := [(0, .ref (ad 0)), (1, .int p0), (2, .int p1), (3, .int p2), (4, .int p3), (5, .ref x)]) (jd k_Law_give 10 rfl) rfl (Nat.le_of_ble_eq_true rfl) rfl ?_
  refine j_iconst (pc := 18) (v := 2) (jd k_Law_give 11 rfl) (by decide) ?_
  exact j_iret (pc := 19) (jd k_Law_give 12 rfl) rfl rfl ⟨rfl, rfl⟩

set_option maxRecDepth 20000 in
theorem d_fault_ok (ad : Nat → Nat) (G : jG) (p0 : Int32) (p1 : Int32) (p2 : Int32) (s : jU) (s2 : jU) (H : f_SR_fault p0 p1 p2 s = some (.inr s2)) : jConW G m_Law_fault y_Law_fault 6 4 24 [.ref (ad 0), .int p0, .int p1, .int p2] (mkC ad G s) (jEq (some (.int 0)) (mkC ad G s2)) := by
  refine jConW.of (by decide +kernel) rfl rfl (Nat.le_of_ble_eq_true rfl) rfl ?_
  refine j_aload_n (pc := 0) 0 (jd k_Law_fault 0 rfl) rfl ?_
  refine j_iload_n (pc := 1) 1 (jd k_Law_fault 1 rfl) rfl ?_
  refine j_iload_n (pc := 2) 2 (jd k_Law_fault 2 rfl) rfl ?_
  refine j_iload_n (pc := 3) 3 (jd k_Law_fault 3 rfl) rfl ?_
  refine jq_V (pc := 4) (st := []) (jCon.post (c_SR_fault ad G p0 p1 p2 s (.inr s2) H) (fun r w h => (h : jEq none (mkC ad G s2) r w))) L0_SR_fault w670 w671 w672 0 rfl rfl (jd k_Law_fault 4 rfl) rfl (Nat.le_of_ble_eq_true rfl) (by decide) (by decide) (by decide) rfl rfl ?_
  refine j_goto (pc := 7) (tgt := 18) (jd k_Law_fault 5 rfl) rfl ?_
  refine j_iconst (pc := 18) (v := 0) (jd k_Law_fault 12 rfl) (by decide) ?_
  exact j_iret (pc := 19) (jd k_Law_fault 13 rfl) rfl rfl ⟨rfl, rfl⟩

set_option maxRecDepth 20000 in
theorem d_fault_ISE (ad : Nat → Nat) (G : jG) (p0 : Int32) (p1 : Int32) (p2 : Int32) (s : jU) (H : f_SR_fault p0 p1 p2 s = some (.inl "java/lang/IllegalStateException")) : jConW G m_Law_fault y_Law_fault 6 4 24 [.ref (ad 0), .int p0, .int p1, .int p2] (mkC ad G s) (jEq (some (.int 1)) (mkC ad G s)) := by
  refine jConW.of (by decide +kernel) rfl rfl (Nat.le_of_ble_eq_true rfl) rfl ?_
  refine j_aload_n (pc := 0) 0 (jd k_Law_fault 0 rfl) rfl ?_
  refine j_iload_n (pc := 1) 1 (jd k_Law_fault 1 rfl) rfl ?_
  refine j_iload_n (pc := 2) 2 (jd k_Law_fault 2 rfl) rfl ?_
  refine j_iload_n (pc := 3) 3 (jd k_Law_fault 3 rfl) rfl ?_
  refine j_cat1V (pc := 4) (st := []) (jCon.post (c_SR_fault ad G p0 p1 p2 s (.inl "java/lang/IllegalStateException") H) (fun r w h => (h : jTw "java/lang/IllegalStateException" (mkC ad G s) r w))) L0_SR_fault w670 w671 w672 0 rfl rfl (jd k_Law_fault 4 rfl) rfl (Nat.le_of_ble_eq_true rfl) (by decide) (by decide) (by decide) rfl rfl (by decide) wt518 wt544 (fun x => ?_)
  refine j_astore (pc := 10) (lv' := [(0, .ref (ad 0)), (1, .int p0), (2, .int p1), (3, .int p2), (4, .ref x)]) (jd k_Law_fault 6 rfl) rfl (Nat.le_of_ble_eq_true rfl) rfl ?_
  refine j_iconst (pc := 12) (v := 1) (jd k_Law_fault 7 rfl) (by decide) ?_
  exact j_iret (pc := 13) (jd k_Law_fault 8 rfl) rfl rfl ⟨rfl, rfl⟩

set_option maxRecDepth 20000 in
theorem d_fault_IAE (ad : Nat → Nat) (G : jG) (p0 : Int32) (p1 : Int32) (p2 : Int32) (s : jU) (H : f_SR_fault p0 p1 p2 s = some (.inl "java/lang/IllegalArgumentException")) : jConW G m_Law_fault y_Law_fault 6 4 24 [.ref (ad 0), .int p0, .int p1, .int p2] (mkC ad G s) (jEq (some (.int 2)) (mkC ad G s)) := by
  refine jConW.of (by decide +kernel) rfl rfl (Nat.le_of_ble_eq_true rfl) rfl ?_
  refine j_aload_n (pc := 0) 0 (jd k_Law_fault 0 rfl) rfl ?_
  refine j_iload_n (pc := 1) 1 (jd k_Law_fault 1 rfl) rfl ?_
  refine j_iload_n (pc := 2) 2 (jd k_Law_fault 2 rfl) rfl ?_
  refine j_iload_n (pc := 3) 3 (jd k_Law_fault 3 rfl) rfl ?_
  refine j_cat2V (pc := 4) (st := []) (jCon.post (c_SR_fault ad G p0 p1 p2 s (.inl "java/lang/IllegalArgumentException") H) (fun r w h => (h : jTw "java/lang/IllegalArgumentException" (mkC ad G s) r w))) L0_SR_fault w670 w671 w672 0 rfl rfl (jd k_Law_fault 4 rfl) rfl (Nat.le_of_ble_eq_true rfl) (by decide) (by decide) (by decide) rfl rfl (by decide) (by decide) wt518 wt439 jnc21 wt446 (fun x => ?_)
  refine j_astore (pc := 14) (lv' := [(0, .ref (ad 0)), (1, .int p0), (2, .int p1), (3, .int p2), (4, .ref x)]) (jd k_Law_fault 9 rfl) rfl (Nat.le_of_ble_eq_true rfl) rfl ?_
  refine j_iconst (pc := 16) (v := 2) (jd k_Law_fault 10 rfl) (by decide) ?_
  exact j_iret (pc := 17) (jd k_Law_fault 11 rfl) rfl rfl ⟨rfl, rfl⟩

set_option maxRecDepth 20000 in
theorem d_crash_ok (ad : Nat → Nat) (G : jG) (p0 : Int32) (p1 : Int32) (s : jU) (s2 : jU) (H : f_SR_crash p0 p1 s = some (.inr s2)) : jConW G m_Law_crash y_Law_crash 6 3 18 [.ref (ad 0), .int p0, .int p1] (mkC ad G s) (jEq (some (.int 0)) (mkC ad G s2)) := by
  refine jConW.of (by decide +kernel) rfl rfl (Nat.le_of_ble_eq_true rfl) rfl ?_
  refine j_aload_n (pc := 0) 0 (jd k_Law_crash 0 rfl) rfl ?_
  refine j_iload_n (pc := 1) 1 (jd k_Law_crash 1 rfl) rfl ?_
  refine j_iload_n (pc := 2) 2 (jd k_Law_crash 2 rfl) rfl ?_
  refine jq_V (pc := 3) (st := []) (jCon.post (c_SR_crash ad G p0 p1 s (.inr s2) H) (fun r w h => (h : jEq none (mkC ad G s2) r w))) L0_SR_crash w695 w696 w697 0 rfl rfl (jd k_Law_crash 3 rfl) rfl (Nat.le_of_ble_eq_true rfl) (by decide) (by decide) (by decide) rfl rfl ?_
  refine j_goto (pc := 6) (tgt := 15) (jd k_Law_crash 4 rfl) rfl ?_
  refine j_iconst (pc := 15) (v := 0) (jd k_Law_crash 11 rfl) (by decide) ?_
  exact j_iret (pc := 16) (jd k_Law_crash 12 rfl) rfl rfl ⟨rfl, rfl⟩

set_option maxRecDepth 20000 in
theorem d_crash_ISE (ad : Nat → Nat) (G : jG) (p0 : Int32) (p1 : Int32) (s : jU) (H : f_SR_crash p0 p1 s = some (.inl "java/lang/IllegalStateException")) : jConW G m_Law_crash y_Law_crash 6 3 18 [.ref (ad 0), .int p0, .int p1] (mkC ad G s) (jEq (some (.int 1)) (mkC ad G s)) := by
  refine jConW.of (by decide +kernel) rfl rfl (Nat.le_of_ble_eq_true rfl) rfl ?_
  refine j_aload_n (pc := 0) 0 (jd k_Law_crash 0 rfl) rfl ?_
  refine j_iload_n (pc := 1) 1 (jd k_Law_crash 1 rfl) rfl ?_
  refine j_iload_n (pc := 2) 2 (jd k_Law_crash 2 rfl) rfl ?_
  refine j_cat1V (pc := 3) (st := []) (jCon.post (c_SR_crash ad G p0 p1 s (.inl "java/lang/IllegalStateException") H) (fun r w h => (h : jTw "java/lang/IllegalStateException" (mkC ad G s) r w))) L0_SR_crash w695 w696 w697 0 rfl rfl (jd k_Law_crash 3 rfl) rfl (Nat.le_of_ble_eq_true rfl) (by decide) (by decide) (by decide) rfl rfl (by decide) wt518 wt544 (fun x => ?_)
  refine j_astore_n (pc := 9) (lv' := [(0, .ref (ad 0)), (1, .int p0), (2, .int p1), (3, .ref x)]) (jd k_Law_crash 5 rfl) rfl (Nat.le_of_ble_eq_true rfl) rfl ?_
  refine j_iconst (pc := 10) (v := 1) (jd k_Law_crash 6 rfl) (by decide) ?_
  exact j_iret (pc := 11) (jd k_Law_crash 7 rfl) rfl rfl ⟨rfl, rfl⟩

set_option maxRecDepth 20000 in
theorem d_crash_IAE (ad : Nat → Nat) (G : jG) (p0 : Int32) (p1 : Int32) (s : jU) (H : f_SR_crash p0 p1 s = some (.inl "java/lang/IllegalArgumentException")) : jConW G m_Law_crash y_Law_crash 6 3 18 [.ref (ad 0), .int p0, .int p1] (mkC ad G s) (jEq (some (.int 2)) (mkC ad G s)) := by
  refine jConW.of (by decide +kernel) rfl rfl (Nat.le_of_ble_eq_true rfl) rfl ?_
  refine j_aload_n (pc := 0) 0 (jd k_Law_crash 0 rfl) rfl ?_
  refine j_iload_n (pc := 1) 1 (jd k_Law_crash 1 rfl) rfl ?_
  refine j_iload_n (pc := 2) 2 (jd k_Law_crash 2 rfl) rfl ?_
  refine j_cat2V (pc := 3) (st := []) (jCon.post (c_SR_crash ad G p0 p1 s (.inl "java/lang/IllegalArgumentException") H) (fun r w h => (h : jTw "java/lang/IllegalArgumentException" (mkC ad G s) r w))) L0_SR_crash w695 w696 w697 0 rfl rfl (jd k_Law_crash 3 rfl) rfl (Nat.le_of_ble_eq_true rfl) (by decide) (by decide) (by decide) rfl rfl (by decide) (by decide) wt518 wt439 jnc21 wt446 (fun x => ?_)
  refine j_astore_n (pc := 12) (lv' := [(0, .ref (ad 0)), (1, .int p0), (2, .int p1), (3, .ref x)]) (jd k_Law_crash 8 rfl) rfl (Nat.le_of_ble_eq_true rfl) rfl ?_
  refine j_iconst (pc := 13) (v := 2) (jd k_Law_crash 9 rfl) (by decide) ?_
  exact j_iret (pc := 14) (jd k_Law_crash 10 rfl) rfl rfl ⟨rfl, rfl⟩

set_option maxRecDepth 20000 in
theorem d_next_ok (ad : Nat → Nat) (G : jG) (s : jU) (o : Nat) (L : Nat → Int64) (v : Int32) (s2 : jU) (H : f_SR_next s = some (.inr (v, s2))) : jConW G m_Law_next y_Law_next 8 1 6 [.ref (ad 0), .ref o] (mkC ad G s ++ [(o, .inl (G.1 2, 1, .inr (.inl L)))]) (jEq (some (.int 0)) (mkC ad G s2 ++ [(o, .inl (G.1 2, 1, .inr (.inl (vp_updL L (0 : Int32).toNatClampNeg v.toInt64))))])) := by
  refine jConW.of (by decide +kernel) rfl rfl (Nat.le_of_ble_eq_true rfl) rfl ?_
  refine j_aload_n (pc := 0) 1 (jd k_Law_next 0 rfl) rfl ?_
  refine j_iconst (pc := 1) (v := 0) (jd k_Law_next 1 rfl) (by decide) ?_
  refine j_aload_n (pc := 2) 0 (jd k_Law_next 2 rfl) rfl ?_
  refine jq_V (pc := 3) (st := [.int 0, .ref o]) (jCon.post (jCon.frR (c_SR_next ad G  s (.inr (v, s2)) H) [(o, .inl (G.1 2, 1, .inr (.inl L)))]) (fun r w h => (jFrR.eq h : jEq (some (.int v)) (mkC ad G s2 ++ [(o, .inl (G.1 2, 1, .inr (.inl L)))]) r w))) L0_SR_next w707 w708 w709 0 rfl rfl (jd k_Law_next 3 rfl) rfl (Nat.le_of_ble_eq_true rfl) (by decide) (by decide) (by decide) rfl rfl ?_
  refine j_i2l (pc := 6) (jd k_Law_next 4 rfl) ?_
  refine j_last (pc := 7) (f := L) (ws' := (mkC ad G s2 ++ [(o, .inl (G.1 2, 1, .inr (.inl (vp_updL L (0 : Int32).toNatClampNeg v.toInt64))))])) 131 (jd k_Law_next 5 rfl) rfl (jin.vp (by decide)) rfl ?_
  refine j_goto (pc := 8) (tgt := 14) (jd k_Law_next 6 rfl) rfl ?_
  refine j_iconst (pc := 14) (v := 0) (jd k_Law_next 10 rfl) (by decide) ?_
  exact j_iret (pc := 15) (jd k_Law_next 11 rfl) rfl rfl ⟨rfl, rfl⟩

set_option maxRecDepth 20000 in
theorem d_next_ISE (ad : Nat → Nat) (G : jG) (s : jU) (o : Nat) (L : Nat → Int64) (H : f_SR_next s = some (.inl "java/lang/IllegalStateException")) : jConW G m_Law_next y_Law_next 8 1 6 [.ref (ad 0), .ref o] (mkC ad G s ++ [(o, .inl (G.1 2, 1, .inr (.inl L)))]) (jEq (some (.int 1)) (mkC ad G s ++ [(o, .inl (G.1 2, 1, .inr (.inl L)))])) := by
  refine jConW.of (by decide +kernel) rfl rfl (Nat.le_of_ble_eq_true rfl) rfl ?_
  refine j_aload_n (pc := 0) 1 (jd k_Law_next 0 rfl) rfl ?_
  refine j_iconst (pc := 1) (v := 0) (jd k_Law_next 1 rfl) (by decide) ?_
  refine j_aload_n (pc := 2) 0 (jd k_Law_next 2 rfl) rfl ?_
  refine j_cat1V (pc := 3) (st := [.int 0, .ref o]) (jCon.post (jCon.frR (c_SR_next ad G  s (.inl "java/lang/IllegalStateException") H) [(o, .inl (G.1 2, 1, .inr (.inl L)))]) (fun r w h => (jFrR.tw h : jTw "java/lang/IllegalStateException" (mkC ad G s ++ [(o, .inl (G.1 2, 1, .inr (.inl L)))]) r w))) L0_SR_next w707 w708 w709 0 rfl rfl (jd k_Law_next 3 rfl) rfl (Nat.le_of_ble_eq_true rfl) (by decide) (by decide) (by decide) rfl rfl (by decide) wt518 wt544 (fun x => ?_)
  refine j_astore_n (pc := 11) (lv' := [(0, .ref (ad 0)), (1, .ref o), (2, .ref x)]) (jd k_Law_next 7 rfl) rfl (Nat.le_of_ble_eq_true rfl) rfl ?_
  refine j_iconst (pc := 12) (v := 1) (jd k_Law_next 8 rfl) (by decide) ?_
  exact j_iret (pc := 13) (jd k_Law_next 9 rfl) rfl rfl ⟨rfl, rfl⟩

set_option maxRecDepth 20000 in
theorem d_complaints_ok (ad : Nat → Nat) (G : jG) (p0 : Int32) (s : jU) (o : Nat) (L : Nat → Int64) (v : Int32) (H : f_SR_complaints p0 s = some (.inr v)) : jConW G m_Law_complaints y_Law_complaints 6 1 6 [.ref (ad 0), .int p0, .ref o] (mkC ad G s ++ [(o, .inl (G.1 2, 1, .inr (.inl L)))]) (jEq (some (.int 0)) (mkC ad G s ++ [(o, .inl (G.1 2, 1, .inr (.inl (vp_updL L (0 : Int32).toNatClampNeg v.toInt64))))])) := by
  refine jConW.of (by decide +kernel) rfl rfl (Nat.le_of_ble_eq_true rfl) rfl ?_
  refine j_aload_n (pc := 0) 2 (jd k_Law_complaints 0 rfl) rfl ?_
  refine j_iconst (pc := 1) (v := 0) (jd k_Law_complaints 1 rfl) (by decide) ?_
  refine j_aload_n (pc := 2) 0 (jd k_Law_complaints 2 rfl) rfl ?_
  refine j_iload_n (pc := 3) 1 (jd k_Law_complaints 3 rfl) rfl ?_
  refine jq_V (pc := 4) (st := [.int 0, .ref o]) (jCon.post (jCon.frR (c_SR_complaints ad G p0 s (.inr v) H) [(o, .inl (G.1 2, 1, .inr (.inl L)))]) (fun r w h => (jFrR.eq h : jEq (some (.int v)) (mkC ad G s ++ [(o, .inl (G.1 2, 1, .inr (.inl L)))]) r w))) L0_SR_complaints w872 w873 w874 0 rfl rfl (jd k_Law_complaints 4 rfl) rfl (Nat.le_of_ble_eq_true rfl) (by decide) (by decide) (by decide) rfl rfl ?_
  refine j_i2l (pc := 7) (jd k_Law_complaints 5 rfl) ?_
  refine j_last (pc := 8) (f := L) (ws' := (mkC ad G s ++ [(o, .inl (G.1 2, 1, .inr (.inl (vp_updL L (0 : Int32).toNatClampNeg v.toInt64))))])) 131 (jd k_Law_complaints 6 rfl) rfl (jin.vp (by decide)) rfl ?_
  refine j_goto (pc := 9) (tgt := 15) (jd k_Law_complaints 7 rfl) rfl ?_
  refine j_iconst (pc := 15) (v := 0) (jd k_Law_complaints 11 rfl) (by decide) ?_
  exact j_iret (pc := 16) (jd k_Law_complaints 12 rfl) rfl rfl ⟨rfl, rfl⟩

set_option maxRecDepth 20000 in
theorem d_complaints_IAE (ad : Nat → Nat) (G : jG) (p0 : Int32) (s : jU) (o : Nat) (L : Nat → Int64) (H : f_SR_complaints p0 s = some (.inl "java/lang/IllegalArgumentException")) : jConW G m_Law_complaints y_Law_complaints 6 1 6 [.ref (ad 0), .int p0, .ref o] (mkC ad G s ++ [(o, .inl (G.1 2, 1, .inr (.inl L)))]) (jEq (some (.int 1)) (mkC ad G s ++ [(o, .inl (G.1 2, 1, .inr (.inl L)))])) := by
  refine jConW.of (by decide +kernel) rfl rfl (Nat.le_of_ble_eq_true rfl) rfl ?_
  refine j_aload_n (pc := 0) 2 (jd k_Law_complaints 0 rfl) rfl ?_
  refine j_iconst (pc := 1) (v := 0) (jd k_Law_complaints 1 rfl) (by decide) ?_
  refine j_aload_n (pc := 2) 0 (jd k_Law_complaints 2 rfl) rfl ?_
  refine j_iload_n (pc := 3) 1 (jd k_Law_complaints 3 rfl) rfl ?_
  refine j_cat1V (pc := 4) (st := [.int 0, .ref o]) (jCon.post (jCon.frR (c_SR_complaints ad G p0 s (.inl "java/lang/IllegalArgumentException") H) [(o, .inl (G.1 2, 1, .inr (.inl L)))]) (fun r w h => (jFrR.tw h : jTw "java/lang/IllegalArgumentException" (mkC ad G s ++ [(o, .inl (G.1 2, 1, .inr (.inl L)))]) r w))) L0_SR_complaints w872 w873 w874 0 rfl rfl (jd k_Law_complaints 4 rfl) rfl (Nat.le_of_ble_eq_true rfl) (by decide) (by decide) (by decide) rfl rfl (by decide) wt439 wt446 (fun x => ?_)
  refine j_astore_n (pc := 12) (lv' := [(0, .ref (ad 0)), (1, .int p0), (2, .ref o), (3, .ref x)]) (jd k_Law_complaints 8 rfl) rfl (Nat.le_of_ble_eq_true rfl) rfl ?_
  refine j_iconst (pc := 13) (v := 1) (jd k_Law_complaints 9 rfl) (by decide) ?_
  exact j_iret (pc := 14) (jd k_Law_complaints 10 rfl) rfl rfl ⟨rfl, rfl⟩

set_option maxRecDepth 20000 in
theorem d_received_ok (ad : Nat → Nat) (G : jG) (p0 : Int32) (p1 : Int32) (p2 : Int32) (s : jU) (o : Nat) (L : Nat → Int64) (v : Int32) (H : f_SR_received p0 p1 p2 s = some (.inr v)) : jConW G m_Law_received y_Law_received 6 3 18 [.ref (ad 0), .int p0, .int p1, .int p2, .ref o] (mkC ad G s ++ [(o, .inl (G.1 2, 1, .inr (.inl L)))]) (jEq (some (.int 0)) (mkC ad G s ++ [(o, .inl (G.1 2, 1, .inr (.inl (vp_updL L (0 : Int32).toNatClampNeg v.toInt64))))])) := by
  refine jConW.of (by decide +kernel) rfl rfl (Nat.le_of_ble_eq_true rfl) rfl ?_
  refine j_aload (pc := 0) 4 (jd k_Law_received 0 rfl) rfl ?_
  refine j_iconst (pc := 2) (v := 0) (jd k_Law_received 1 rfl) (by decide) ?_
  refine j_aload_n (pc := 3) 0 (jd k_Law_received 2 rfl) rfl ?_
  refine j_iload_n (pc := 4) 1 (jd k_Law_received 3 rfl) rfl ?_
  refine j_iload_n (pc := 5) 2 (jd k_Law_received 4 rfl) rfl ?_
  refine j_iload_n (pc := 6) 3 (jd k_Law_received 5 rfl) rfl ?_
  refine jq_V (pc := 7) (st := [.int 0, .ref o]) (jCon.post (jCon.frR (c_SR_received ad G p0 p1 p2 s (.inr v) H) [(o, .inl (G.1 2, 1, .inr (.inl L)))]) (fun r w h => (jFrR.eq h : jEq (some (.int v)) (mkC ad G s ++ [(o, .inl (G.1 2, 1, .inr (.inl L)))]) r w))) L0_SR_received w883 w884 w885 0 rfl rfl (jd k_Law_received 6 rfl) rfl (Nat.le_of_ble_eq_true rfl) (by decide) (by decide) (by decide) rfl rfl ?_
  refine j_i2l (pc := 10) (jd k_Law_received 7 rfl) ?_
  refine j_last (pc := 11) (f := L) (ws' := (mkC ad G s ++ [(o, .inl (G.1 2, 1, .inr (.inl (vp_updL L (0 : Int32).toNatClampNeg v.toInt64))))])) 131 (jd k_Law_received 8 rfl) rfl (jin.vp (by decide)) rfl ?_
  refine j_goto (pc := 12) (tgt := 19) (jd k_Law_received 9 rfl) rfl ?_
  refine j_iconst (pc := 19) (v := 0) (jd k_Law_received 13 rfl) (by decide) ?_
  exact j_iret (pc := 20) (jd k_Law_received 14 rfl) rfl rfl ⟨rfl, rfl⟩

set_option maxRecDepth 20000 in
theorem d_received_IAE (ad : Nat → Nat) (G : jG) (p0 : Int32) (p1 : Int32) (p2 : Int32) (s : jU) (o : Nat) (L : Nat → Int64) (H : f_SR_received p0 p1 p2 s = some (.inl "java/lang/IllegalArgumentException")) : jConW G m_Law_received y_Law_received 6 3 18 [.ref (ad 0), .int p0, .int p1, .int p2, .ref o] (mkC ad G s ++ [(o, .inl (G.1 2, 1, .inr (.inl L)))]) (jEq (some (.int 1)) (mkC ad G s ++ [(o, .inl (G.1 2, 1, .inr (.inl L)))])) := by
  refine jConW.of (by decide +kernel) rfl rfl (Nat.le_of_ble_eq_true rfl) rfl ?_
  refine j_aload (pc := 0) 4 (jd k_Law_received 0 rfl) rfl ?_
  refine j_iconst (pc := 2) (v := 0) (jd k_Law_received 1 rfl) (by decide) ?_
  refine j_aload_n (pc := 3) 0 (jd k_Law_received 2 rfl) rfl ?_
  refine j_iload_n (pc := 4) 1 (jd k_Law_received 3 rfl) rfl ?_
  refine j_iload_n (pc := 5) 2 (jd k_Law_received 4 rfl) rfl ?_
  refine j_iload_n (pc := 6) 3 (jd k_Law_received 5 rfl) rfl ?_
  refine j_cat1V (pc := 7) (st := [.int 0, .ref o]) (jCon.post (jCon.frR (c_SR_received ad G p0 p1 p2 s (.inl "java/lang/IllegalArgumentException") H) [(o, .inl (G.1 2, 1, .inr (.inl L)))]) (fun r w h => (jFrR.tw h : jTw "java/lang/IllegalArgumentException" (mkC ad G s ++ [(o, .inl (G.1 2, 1, .inr (.inl L)))]) r w))) L0_SR_received w883 w884 w885 0 rfl rfl (jd k_Law_received 6 rfl) rfl (Nat.le_of_ble_eq_true rfl) (by decide) (by decide) (by decide) rfl rfl (by decide) wt439 wt446 (fun x => ?_)
  refine j_astore (pc := 15) (lv' := [(0, .ref (ad 0)), (1, .int p0), (2, .int p1), (3, .int p2), (4, .ref o), (5, .ref x)]) (jd k_Law_received 10 rfl) rfl (Nat.le_of_ble_eq_true rfl) rfl ?_
  refine j_iconst (pc := 17) (v := 1) (jd k_Law_received 11 rfl) (by decide) ?_
  exact j_iret (pc := 18) (jd k_Law_received 12 rfl) rfl rfl ⟨rfl, rfl⟩

set_option maxRecDepth 20000 in
theorem d_commitment_ok (ad : Nat → Nat) (G : jG) (p0 : Int32) (p1 : Int32) (p2 : Int32) (s : jU) (o : Nat) (L : Nat → Int64) (v : Int32) (H : f_SR_commitment p0 p1 p2 s = some (.inr v)) : jConW G m_Law_commitment y_Law_commitment 6 3 18 [.ref (ad 0), .int p0, .int p1, .int p2, .ref o] (mkC ad G s ++ [(o, .inl (G.1 2, 1, .inr (.inl L)))]) (jEq (some (.int 0)) (mkC ad G s ++ [(o, .inl (G.1 2, 1, .inr (.inl (vp_updL L (0 : Int32).toNatClampNeg v.toInt64))))])) := by
  refine jConW.of (by decide +kernel) rfl rfl (Nat.le_of_ble_eq_true rfl) rfl ?_
  refine j_aload (pc := 0) 4 (jd k_Law_commitment 0 rfl) rfl ?_
  refine j_iconst (pc := 2) (v := 0) (jd k_Law_commitment 1 rfl) (by decide) ?_
  refine j_aload_n (pc := 3) 0 (jd k_Law_commitment 2 rfl) rfl ?_
  refine j_iload_n (pc := 4) 1 (jd k_Law_commitment 3 rfl) rfl ?_
  refine j_iload_n (pc := 5) 2 (jd k_Law_commitment 4 rfl) rfl ?_
  refine j_iload_n (pc := 6) 3 (jd k_Law_commitment 5 rfl) rfl ?_
  refine jq_V (pc := 7) (st := [.int 0, .ref o]) (jCon.post (jCon.frR (c_SR_commitment ad G p0 p1 p2 s (.inr v) H) [(o, .inl (G.1 2, 1, .inr (.inl L)))]) (fun r w h => (jFrR.eq h : jEq (some (.int v)) (mkC ad G s ++ [(o, .inl (G.1 2, 1, .inr (.inl L)))]) r w))) L0_SR_commitment w894 w895 w896 0 rfl rfl (jd k_Law_commitment 6 rfl) rfl (Nat.le_of_ble_eq_true rfl) (by decide) (by decide) (by decide) rfl rfl ?_
  refine j_i2l (pc := 10) (jd k_Law_commitment 7 rfl) ?_
  refine j_last (pc := 11) (f := L) (ws' := (mkC ad G s ++ [(o, .inl (G.1 2, 1, .inr (.inl (vp_updL L (0 : Int32).toNatClampNeg v.toInt64))))])) 131 (jd k_Law_commitment 8 rfl) rfl (jin.vp (by decide)) rfl ?_
  refine j_goto (pc := 12) (tgt := 19) (jd k_Law_commitment 9 rfl) rfl ?_
  refine j_iconst (pc := 19) (v := 0) (jd k_Law_commitment 13 rfl) (by decide) ?_
  exact j_iret (pc := 20) (jd k_Law_commitment 14 rfl) rfl rfl ⟨rfl, rfl⟩

set_option maxRecDepth 20000 in
theorem d_commitment_IAE (ad : Nat → Nat) (G : jG) (p0 : Int32) (p1 : Int32) (p2 : Int32) (s : jU) (o : Nat) (L : Nat → Int64) (H : f_SR_commitment p0 p1 p2 s = some (.inl "java/lang/IllegalArgumentException")) : jConW G m_Law_commitment y_Law_commitment 6 3 18 [.ref (ad 0), .int p0, .int p1, .int p2, .ref o] (mkC ad G s ++ [(o, .inl (G.1 2, 1, .inr (.inl L)))]) (jEq (some (.int 1)) (mkC ad G s ++ [(o, .inl (G.1 2, 1, .inr (.inl L)))])) := by
  refine jConW.of (by decide +kernel) rfl rfl (Nat.le_of_ble_eq_true rfl) rfl ?_
  refine j_aload (pc := 0) 4 (jd k_Law_commitment 0 rfl) rfl ?_
  refine j_iconst (pc := 2) (v := 0) (jd k_Law_commitment 1 rfl) (by decide) ?_
  refine j_aload_n (pc := 3) 0 (jd k_Law_commitment 2 rfl) rfl ?_
  refine j_iload_n (pc := 4) 1 (jd k_Law_commitment 3 rfl) rfl ?_
  refine j_iload_n (pc := 5) 2 (jd k_Law_commitment 4 rfl) rfl ?_
  refine j_iload_n (pc := 6) 3 (jd k_Law_commitment 5 rfl) rfl ?_
  refine j_cat1V (pc := 7) (st := [.int 0, .ref o]) (jCon.post (jCon.frR (c_SR_commitment ad G p0 p1 p2 s (.inl "java/lang/IllegalArgumentException") H) [(o, .inl (G.1 2, 1, .inr (.inl L)))]) (fun r w h => (jFrR.tw h : jTw "java/lang/IllegalArgumentException" (mkC ad G s ++ [(o, .inl (G.1 2, 1, .inr (.inl L)))]) r w))) L0_SR_commitment w894 w895 w896 0 rfl rfl (jd k_Law_commitment 6 rfl) rfl (Nat.le_of_ble_eq_true rfl) (by decide) (by decide) (by decide) rfl rfl (by decide) wt439 wt446 (fun x => ?_)
  refine j_astore (pc := 15) (lv' := [(0, .ref (ad 0)), (1, .int p0), (2, .int p1), (3, .int p2), (4, .ref o), (5, .ref x)]) (jd k_Law_commitment 10 rfl) rfl (Nat.le_of_ble_eq_true rfl) rfl ?_
  refine j_iconst (pc := 17) (v := 1) (jd k_Law_commitment 11 rfl) (by decide) ?_
  exact j_iret (pc := 18) (jd k_Law_commitment 12 rfl) rfl rfl ⟨rfl, rfl⟩

set_option maxRecDepth 20000 in
theorem d_share_ok (ad : Nat → Nat) (G : jG) (p0 : Int32) (p1 : Int32) (s : jU) (o : Nat) (L : Nat → Int64) (v : Int32) (H : f_SR_share p0 p1 s = some (.inr v)) : jConW G m_Law_share y_Law_share 6 2 12 [.ref (ad 0), .int p0, .int p1, .ref o] (mkC ad G s ++ [(o, .inl (G.1 2, 1, .inr (.inl L)))]) (jEq (some (.int 0)) (mkC ad G s ++ [(o, .inl (G.1 2, 1, .inr (.inl (vp_updL L (0 : Int32).toNatClampNeg v.toInt64))))])) := by
  refine jConW.of (by decide +kernel) rfl rfl (Nat.le_of_ble_eq_true rfl) rfl ?_
  refine j_aload_n (pc := 0) 3 (jd k_Law_share 0 rfl) rfl ?_
  refine j_iconst (pc := 1) (v := 0) (jd k_Law_share 1 rfl) (by decide) ?_
  refine j_aload_n (pc := 2) 0 (jd k_Law_share 2 rfl) rfl ?_
  refine j_iload_n (pc := 3) 1 (jd k_Law_share 3 rfl) rfl ?_
  refine j_iload_n (pc := 4) 2 (jd k_Law_share 4 rfl) rfl ?_
  refine jq_V (pc := 5) (st := [.int 0, .ref o]) (jCon.post (jCon.frR (c_SR_share ad G p0 p1 s (.inr v) H) [(o, .inl (G.1 2, 1, .inr (.inl L)))]) (fun r w h => (jFrR.eq h : jEq (some (.int v)) (mkC ad G s ++ [(o, .inl (G.1 2, 1, .inr (.inl L)))]) r w))) L0_SR_share w905 w906 w907 0 rfl rfl (jd k_Law_share 5 rfl) rfl (Nat.le_of_ble_eq_true rfl) (by decide) (by decide) (by decide) rfl rfl ?_
  refine j_i2l (pc := 8) (jd k_Law_share 6 rfl) ?_
  refine j_last (pc := 9) (f := L) (ws' := (mkC ad G s ++ [(o, .inl (G.1 2, 1, .inr (.inl (vp_updL L (0 : Int32).toNatClampNeg v.toInt64))))])) 131 (jd k_Law_share 7 rfl) rfl (jin.vp (by decide)) rfl ?_
  refine j_goto (pc := 10) (tgt := 17) (jd k_Law_share 8 rfl) rfl ?_
  refine j_iconst (pc := 17) (v := 0) (jd k_Law_share 12 rfl) (by decide) ?_
  exact j_iret (pc := 18) (jd k_Law_share 13 rfl) rfl rfl ⟨rfl, rfl⟩

set_option maxRecDepth 20000 in
theorem d_share_IAE (ad : Nat → Nat) (G : jG) (p0 : Int32) (p1 : Int32) (s : jU) (o : Nat) (L : Nat → Int64) (H : f_SR_share p0 p1 s = some (.inl "java/lang/IllegalArgumentException")) : jConW G m_Law_share y_Law_share 6 2 12 [.ref (ad 0), .int p0, .int p1, .ref o] (mkC ad G s ++ [(o, .inl (G.1 2, 1, .inr (.inl L)))]) (jEq (some (.int 1)) (mkC ad G s ++ [(o, .inl (G.1 2, 1, .inr (.inl L)))])) := by
  refine jConW.of (by decide +kernel) rfl rfl (Nat.le_of_ble_eq_true rfl) rfl ?_
  refine j_aload_n (pc := 0) 3 (jd k_Law_share 0 rfl) rfl ?_
  refine j_iconst (pc := 1) (v := 0) (jd k_Law_share 1 rfl) (by decide) ?_
  refine j_aload_n (pc := 2) 0 (jd k_Law_share 2 rfl) rfl ?_
  refine j_iload_n (pc := 3) 1 (jd k_Law_share 3 rfl) rfl ?_
  refine j_iload_n (pc := 4) 2 (jd k_Law_share 4 rfl) rfl ?_
  refine j_cat1V (pc := 5) (st := [.int 0, .ref o]) (jCon.post (jCon.frR (c_SR_share ad G p0 p1 s (.inl "java/lang/IllegalArgumentException") H) [(o, .inl (G.1 2, 1, .inr (.inl L)))]) (fun r w h => (jFrR.tw h : jTw "java/lang/IllegalArgumentException" (mkC ad G s ++ [(o, .inl (G.1 2, 1, .inr (.inl L)))]) r w))) L0_SR_share w905 w906 w907 0 rfl rfl (jd k_Law_share 5 rfl) rfl (Nat.le_of_ble_eq_true rfl) (by decide) (by decide) (by decide) rfl rfl (by decide) wt439 wt446 (fun x => ?_)
  refine j_astore (pc := 13) (lv' := [(0, .ref (ad 0)), (1, .int p0), (2, .int p1), (3, .ref o), (4, .ref x)]) (jd k_Law_share 9 rfl) rfl (Nat.le_of_ble_eq_true rfl) rfl ?_
  refine j_iconst (pc := 15) (v := 1) (jd k_Law_share 10 rfl) (by decide) ?_
  exact j_iret (pc := 16) (jd k_Law_share 11 rfl) rfl rfl ⟨rfl, rfl⟩

set_option maxRecDepth 20000 in
theorem d_told_ok (ad : Nat → Nat) (G : jG) (p0 : Int32) (s : jU) (o : Nat) (L : Nat → Int64) (v : Int32) (H : f_SR_told p0 s = some (.inr v)) : jConW G m_Law_told y_Law_told 5 1 6 [.ref (ad 0), .int p0, .ref o] (mkC ad G s ++ [(o, .inl (G.1 2, 1, .inr (.inl L)))]) (jEq (some (.int 0)) (mkC ad G s ++ [(o, .inl (G.1 2, 1, .inr (.inl (vp_updL L (0 : Int32).toNatClampNeg v.toInt64))))])) := by
  refine jConW.of (by decide +kernel) rfl rfl (Nat.le_of_ble_eq_true rfl) rfl ?_
  refine j_aload_n (pc := 0) 2 (jd k_Law_told 0 rfl) rfl ?_
  refine j_iconst (pc := 1) (v := 0) (jd k_Law_told 1 rfl) (by decide) ?_
  refine j_aload_n (pc := 2) 0 (jd k_Law_told 2 rfl) rfl ?_
  refine j_iload_n (pc := 3) 1 (jd k_Law_told 3 rfl) rfl ?_
  refine jq_V (pc := 4) (st := [.int 0, .ref o]) (jCon.post (jCon.frR (c_SR_told ad G p0 s (.inr v) H) [(o, .inl (G.1 2, 1, .inr (.inl L)))]) (fun r w h => (jFrR.eq h : jEq (some (.int v)) (mkC ad G s ++ [(o, .inl (G.1 2, 1, .inr (.inl L)))]) r w))) L0_SR_told w917 w918 w919 0 rfl rfl (jd k_Law_told 4 rfl) rfl (Nat.le_of_ble_eq_true rfl) (by decide) (by decide) (by decide) rfl rfl ?_
  refine j_i2l (pc := 7) (jd k_Law_told 5 rfl) ?_
  refine j_last (pc := 8) (f := L) (ws' := (mkC ad G s ++ [(o, .inl (G.1 2, 1, .inr (.inl (vp_updL L (0 : Int32).toNatClampNeg v.toInt64))))])) 131 (jd k_Law_told 6 rfl) rfl (jin.vp (by decide)) rfl ?_
  refine j_goto (pc := 9) (tgt := 15) (jd k_Law_told 7 rfl) rfl ?_
  refine j_iconst (pc := 15) (v := 0) (jd k_Law_told 11 rfl) (by decide) ?_
  exact j_iret (pc := 16) (jd k_Law_told 12 rfl) rfl rfl ⟨rfl, rfl⟩

set_option maxRecDepth 20000 in
theorem d_told_IOB (ad : Nat → Nat) (G : jG) (p0 : Int32) (s : jU) (o : Nat) (L : Nat → Int64) (H : f_SR_told p0 s = some (.inl "java/lang/IndexOutOfBoundsException")) : jConW G m_Law_told y_Law_told 5 1 6 [.ref (ad 0), .int p0, .ref o] (mkC ad G s ++ [(o, .inl (G.1 2, 1, .inr (.inl L)))]) (jEq (some (.int 1)) (mkC ad G s ++ [(o, .inl (G.1 2, 1, .inr (.inl L)))])) := by
  refine jConW.of (by decide +kernel) rfl rfl (Nat.le_of_ble_eq_true rfl) rfl ?_
  refine j_aload_n (pc := 0) 2 (jd k_Law_told 0 rfl) rfl ?_
  refine j_iconst (pc := 1) (v := 0) (jd k_Law_told 1 rfl) (by decide) ?_
  refine j_aload_n (pc := 2) 0 (jd k_Law_told 2 rfl) rfl ?_
  refine j_iload_n (pc := 3) 1 (jd k_Law_told 3 rfl) rfl ?_
  refine j_cat1V (pc := 4) (st := [.int 0, .ref o]) (jCon.post (jCon.frR (c_SR_told ad G p0 s (.inl "java/lang/IndexOutOfBoundsException") H) [(o, .inl (G.1 2, 1, .inr (.inl L)))]) (fun r w h => (jFrR.tw h : jTw "java/lang/IndexOutOfBoundsException" (mkC ad G s ++ [(o, .inl (G.1 2, 1, .inr (.inl L)))]) r w))) L0_SR_told w917 w918 w919 0 rfl rfl (jd k_Law_told 4 rfl) rfl (Nat.le_of_ble_eq_true rfl) (by decide) (by decide) (by decide) rfl rfl (by decide) wt916 wt923 (fun x => ?_)
  refine j_astore_n (pc := 12) (lv' := [(0, .ref (ad 0)), (1, .int p0), (2, .ref o), (3, .ref x)]) (jd k_Law_told 8 rfl) rfl (Nat.le_of_ble_eq_true rfl) rfl ?_
  refine j_iconst (pc := 13) (v := 1) (jd k_Law_told 9 rfl) (by decide) ?_
  exact j_iret (pc := 14) (jd k_Law_told 10 rfl) rfl rfl ⟨rfl, rfl⟩

set_option maxRecDepth 20000 in
theorem d_digest_ok (ad : Nat → Nat) (G : jG) (p0 : Int32) (s : jU) (o : Nat) (L : Nat → Int64) (v : Int32) (s2 : jU) (H : f_SR_digest p0 s = some (.inr (v, s2))) : jConW G m_Law_digest y_Law_digest 5 1 6 [.ref (ad 0), .int p0, .ref o] (mkC ad G s ++ [(o, .inl (G.1 2, 1, .inr (.inl L)))]) (jEq (some (.int 0)) (mkC ad G s2 ++ [(o, .inl (G.1 2, 1, .inr (.inl (vp_updL L (0 : Int32).toNatClampNeg v.toInt64))))])) := by
  refine jConW.of (by decide +kernel) rfl rfl (Nat.le_of_ble_eq_true rfl) rfl ?_
  refine j_aload_n (pc := 0) 2 (jd k_Law_digest 0 rfl) rfl ?_
  refine j_iconst (pc := 1) (v := 0) (jd k_Law_digest 1 rfl) (by decide) ?_
  refine j_aload_n (pc := 2) 0 (jd k_Law_digest 2 rfl) rfl ?_
  refine j_iload_n (pc := 3) 1 (jd k_Law_digest 3 rfl) rfl ?_
  refine jq_V (pc := 4) (st := [.int 0, .ref o]) (jCon.post (jCon.frR (c_SR_digest ad G p0 s (.inr (v, s2)) H) [(o, .inl (G.1 2, 1, .inr (.inl L)))]) (fun r w h => (jFrR.eq h : jEq (some (.int v)) (mkC ad G s2 ++ [(o, .inl (G.1 2, 1, .inr (.inl L)))]) r w))) L0_SR_digest w944 w945 w946 0 rfl rfl (jd k_Law_digest 4 rfl) rfl (Nat.le_of_ble_eq_true rfl) (by decide) (by decide) (by decide) rfl rfl ?_
  refine j_i2l (pc := 7) (jd k_Law_digest 5 rfl) ?_
  refine j_last (pc := 8) (f := L) (ws' := (mkC ad G s2 ++ [(o, .inl (G.1 2, 1, .inr (.inl (vp_updL L (0 : Int32).toNatClampNeg v.toInt64))))])) 131 (jd k_Law_digest 6 rfl) rfl (jin.vp (by decide)) rfl ?_
  refine j_goto (pc := 9) (tgt := 15) (jd k_Law_digest 7 rfl) rfl ?_
  refine j_iconst (pc := 15) (v := 0) (jd k_Law_digest 11 rfl) (by decide) ?_
  exact j_iret (pc := 16) (jd k_Law_digest 12 rfl) rfl rfl ⟨rfl, rfl⟩

set_option maxRecDepth 20000 in
theorem d_digest_IOB (ad : Nat → Nat) (G : jG) (p0 : Int32) (s : jU) (o : Nat) (L : Nat → Int64) (H : f_SR_digest p0 s = some (.inl "java/lang/IndexOutOfBoundsException")) : jConW G m_Law_digest y_Law_digest 5 1 6 [.ref (ad 0), .int p0, .ref o] (mkC ad G s ++ [(o, .inl (G.1 2, 1, .inr (.inl L)))]) (jEq (some (.int 1)) (mkC ad G s ++ [(o, .inl (G.1 2, 1, .inr (.inl L)))])) := by
  refine jConW.of (by decide +kernel) rfl rfl (Nat.le_of_ble_eq_true rfl) rfl ?_
  refine j_aload_n (pc := 0) 2 (jd k_Law_digest 0 rfl) rfl ?_
  refine j_iconst (pc := 1) (v := 0) (jd k_Law_digest 1 rfl) (by decide) ?_
  refine j_aload_n (pc := 2) 0 (jd k_Law_digest 2 rfl) rfl ?_
  refine j_iload_n (pc := 3) 1 (jd k_Law_digest 3 rfl) rfl ?_
  refine j_cat1V (pc := 4) (st := [.int 0, .ref o]) (jCon.post (jCon.frR (c_SR_digest ad G p0 s (.inl "java/lang/IndexOutOfBoundsException") H) [(o, .inl (G.1 2, 1, .inr (.inl L)))]) (fun r w h => (jFrR.tw h : jTw "java/lang/IndexOutOfBoundsException" (mkC ad G s ++ [(o, .inl (G.1 2, 1, .inr (.inl L)))]) r w))) L0_SR_digest w944 w945 w946 0 rfl rfl (jd k_Law_digest 4 rfl) rfl (Nat.le_of_ble_eq_true rfl) (by decide) (by decide) (by decide) rfl rfl (by decide) wt916 wt923 (fun x => ?_)
  refine j_astore_n (pc := 12) (lv' := [(0, .ref (ad 0)), (1, .int p0), (2, .ref o), (3, .ref x)]) (jd k_Law_digest 8 rfl) rfl (Nat.le_of_ble_eq_true rfl) rfl ?_
  refine j_iconst (pc := 13) (v := 1) (jd k_Law_digest 9 rfl) (by decide) ?_
  exact j_iret (pc := 14) (jd k_Law_digest 10 rfl) rfl rfl ⟨rfl, rfl⟩

set_option maxRecDepth 20000 in
theorem d_recover_ok (ad : Nat → Nat) (G : jG) (p0 : Int32) (s : jU) (o : Nat) (L : Nat → Int64) (v : Int32) (s2 : jU) (H : f_SR_recover p0 s = some (.inr (v, s2))) : jConW G m_Law_recover y_Law_recover 6 2 12 [.ref (ad 0), .int p0, .ref o] (mkC ad G s ++ [(o, .inl (G.1 2, 1, .inr (.inl L)))]) (jEq (some (.int 0)) (mkC ad G s2 ++ [(o, .inl (G.1 2, 1, .inr (.inl (vp_updL L (0 : Int32).toNatClampNeg v.toInt64))))])) := by
  refine jConW.of (by decide +kernel) rfl rfl (Nat.le_of_ble_eq_true rfl) rfl ?_
  refine j_aload_n (pc := 0) 2 (jd k_Law_recover 0 rfl) rfl ?_
  refine j_iconst (pc := 1) (v := 0) (jd k_Law_recover 1 rfl) (by decide) ?_
  refine j_aload_n (pc := 2) 0 (jd k_Law_recover 2 rfl) rfl ?_
  refine j_iload_n (pc := 3) 1 (jd k_Law_recover 3 rfl) rfl ?_
  refine jq_V (pc := 4) (st := [.int 0, .ref o]) (jCon.post (jCon.frR (c_SR_recover ad G p0 s (.inr (v, s2)) H) [(o, .inl (G.1 2, 1, .inr (.inl L)))]) (fun r w h => (jFrR.eq h : jEq (some (.int v)) (mkC ad G s2 ++ [(o, .inl (G.1 2, 1, .inr (.inl L)))]) r w))) L0_SR_recover w979 w980 w981 0 rfl rfl (jd k_Law_recover 4 rfl) rfl (Nat.le_of_ble_eq_true rfl) (by decide) (by decide) (by decide) rfl rfl ?_
  refine j_i2l (pc := 7) (jd k_Law_recover 5 rfl) ?_
  refine j_last (pc := 8) (f := L) (ws' := (mkC ad G s2 ++ [(o, .inl (G.1 2, 1, .inr (.inl (vp_updL L (0 : Int32).toNatClampNeg v.toInt64))))])) 131 (jd k_Law_recover 6 rfl) rfl (jin.vp (by decide)) rfl ?_
  refine j_goto (pc := 9) (tgt := 18) (jd k_Law_recover 7 rfl) rfl ?_
  refine j_iconst (pc := 18) (v := 0) (jd k_Law_recover 14 rfl) (by decide) ?_
  exact j_iret (pc := 19) (jd k_Law_recover 15 rfl) rfl rfl ⟨rfl, rfl⟩

set_option maxRecDepth 20000 in
theorem d_recover_ISE (ad : Nat → Nat) (G : jG) (p0 : Int32) (s : jU) (o : Nat) (L : Nat → Int64) (H : f_SR_recover p0 s = some (.inl "java/lang/IllegalStateException")) : jConW G m_Law_recover y_Law_recover 6 2 12 [.ref (ad 0), .int p0, .ref o] (mkC ad G s ++ [(o, .inl (G.1 2, 1, .inr (.inl L)))]) (jEq (some (.int 1)) (mkC ad G s ++ [(o, .inl (G.1 2, 1, .inr (.inl L)))])) := by
  refine jConW.of (by decide +kernel) rfl rfl (Nat.le_of_ble_eq_true rfl) rfl ?_
  refine j_aload_n (pc := 0) 2 (jd k_Law_recover 0 rfl) rfl ?_
  refine j_iconst (pc := 1) (v := 0) (jd k_Law_recover 1 rfl) (by decide) ?_
  refine j_aload_n (pc := 2) 0 (jd k_Law_recover 2 rfl) rfl ?_
  refine j_iload_n (pc := 3) 1 (jd k_Law_recover 3 rfl) rfl ?_
  refine j_cat1V (pc := 4) (st := [.int 0, .ref o]) (jCon.post (jCon.frR (c_SR_recover ad G p0 s (.inl "java/lang/IllegalStateException") H) [(o, .inl (G.1 2, 1, .inr (.inl L)))]) (fun r w h => (jFrR.tw h : jTw "java/lang/IllegalStateException" (mkC ad G s ++ [(o, .inl (G.1 2, 1, .inr (.inl L)))]) r w))) L0_SR_recover w979 w980 w981 0 rfl rfl (jd k_Law_recover 4 rfl) rfl (Nat.le_of_ble_eq_true rfl) (by decide) (by decide) (by decide) rfl rfl (by decide) wt518 wt544 (fun x => ?_)
  refine j_astore_n (pc := 12) (lv' := [(0, .ref (ad 0)), (1, .int p0), (2, .ref o), (3, .ref x)]) (jd k_Law_recover 8 rfl) rfl (Nat.le_of_ble_eq_true rfl) rfl ?_
  refine j_iconst (pc := 13) (v := 1) (jd k_Law_recover 9 rfl) (by decide) ?_
  exact j_iret (pc := 14) (jd k_Law_recover 10 rfl) rfl rfl ⟨rfl, rfl⟩

set_option maxRecDepth 20000 in
theorem d_recover_IAE (ad : Nat → Nat) (G : jG) (p0 : Int32) (s : jU) (o : Nat) (L : Nat → Int64) (H : f_SR_recover p0 s = some (.inl "java/lang/IllegalArgumentException")) : jConW G m_Law_recover y_Law_recover 6 2 12 [.ref (ad 0), .int p0, .ref o] (mkC ad G s ++ [(o, .inl (G.1 2, 1, .inr (.inl L)))]) (jEq (some (.int 2)) (mkC ad G s ++ [(o, .inl (G.1 2, 1, .inr (.inl L)))])) := by
  refine jConW.of (by decide +kernel) rfl rfl (Nat.le_of_ble_eq_true rfl) rfl ?_
  refine j_aload_n (pc := 0) 2 (jd k_Law_recover 0 rfl) rfl ?_
  refine j_iconst (pc := 1) (v := 0) (jd k_Law_recover 1 rfl) (by decide) ?_
  refine j_aload_n (pc := 2) 0 (jd k_Law_recover 2 rfl) rfl ?_
  refine j_iload_n (pc := 3) 1 (jd k_Law_recover 3 rfl) rfl ?_
  refine j_cat2V (pc := 4) (st := [.int 0, .ref o]) (jCon.post (jCon.frR (c_SR_recover ad G p0 s (.inl "java/lang/IllegalArgumentException") H) [(o, .inl (G.1 2, 1, .inr (.inl L)))]) (fun r w h => (jFrR.tw h : jTw "java/lang/IllegalArgumentException" (mkC ad G s ++ [(o, .inl (G.1 2, 1, .inr (.inl L)))]) r w))) L0_SR_recover w979 w980 w981 0 rfl rfl (jd k_Law_recover 4 rfl) rfl (Nat.le_of_ble_eq_true rfl) (by decide) (by decide) (by decide) rfl rfl (by decide) (by decide) wt518 wt439 jnc21 wt446 (fun x => ?_)
  refine j_astore_n (pc := 15) (lv' := [(0, .ref (ad 0)), (1, .int p0), (2, .ref o), (3, .ref x)]) (jd k_Law_recover 11 rfl) rfl (Nat.le_of_ble_eq_true rfl) rfl ?_
  refine j_iconst (pc := 16) (v := 2) (jd k_Law_recover 12 rfl) (by decide) ?_
  exact j_iret (pc := 17) (jd k_Law_recover 13 rfl) rfl rfl ⟨rfl, rfl⟩

set_option maxRecDepth 20000 in
theorem d_refresh_ok (ad : Nat → Nat) (G : jG) (s : jU) (s2 : jU) (H : f_SR_refresh s = some (.inr s2)) : jConW G m_Law_refresh y_Law_refresh 6 1 6 [.ref (ad 0)] (mkC ad G s) (jEq (some (.int 0)) (mkC ad G s2)) := by
  refine jConW.of (by decide +kernel) rfl rfl (Nat.le_of_ble_eq_true rfl) rfl ?_
  refine j_aload_n (pc := 0) 0 (jd k_Law_refresh 0 rfl) rfl ?_
  refine jq_V (pc := 1) (st := []) (jCon.post (c_SR_refresh ad G  s (.inr s2) H) (fun r w h => (h : jEq none (mkC ad G s2) r w))) L0_SR_refresh w1008 w1009 w1010 0 rfl rfl (jd k_Law_refresh 1 rfl) rfl (Nat.le_of_ble_eq_true rfl) (by decide) (by decide) (by decide) rfl rfl ?_
  refine j_goto (pc := 4) (tgt := 10) (jd k_Law_refresh 2 rfl) rfl ?_
  refine j_iconst (pc := 10) (v := 0) (jd k_Law_refresh 6 rfl) (by decide) ?_
  exact j_iret (pc := 11) (jd k_Law_refresh 7 rfl) rfl rfl ⟨rfl, rfl⟩

set_option maxRecDepth 20000 in
theorem d_refresh_ISE (ad : Nat → Nat) (G : jG) (s : jU) (H : f_SR_refresh s = some (.inl "java/lang/IllegalStateException")) : jConW G m_Law_refresh y_Law_refresh 6 1 6 [.ref (ad 0)] (mkC ad G s) (jEq (some (.int 1)) (mkC ad G s)) := by
  refine jConW.of (by decide +kernel) rfl rfl (Nat.le_of_ble_eq_true rfl) rfl ?_
  refine j_aload_n (pc := 0) 0 (jd k_Law_refresh 0 rfl) rfl ?_
  refine j_cat1V (pc := 1) (st := []) (jCon.post (c_SR_refresh ad G  s (.inl "java/lang/IllegalStateException") H) (fun r w h => (h : jTw "java/lang/IllegalStateException" (mkC ad G s) r w))) L0_SR_refresh w1008 w1009 w1010 0 rfl rfl (jd k_Law_refresh 1 rfl) rfl (Nat.le_of_ble_eq_true rfl) (by decide) (by decide) (by decide) rfl rfl (by decide) wt518 wt544 (fun x => ?_)
  refine j_astore_n (pc := 7) (lv' := [(0, .ref (ad 0)), (1, .ref x)]) (jd k_Law_refresh 3 rfl) rfl (Nat.le_of_ble_eq_true rfl) rfl ?_
  refine j_iconst (pc := 8) (v := 1) (jd k_Law_refresh 4 rfl) (by decide) ?_
  exact j_iret (pc := 9) (jd k_Law_refresh 5 rfl) rfl rfl ⟨rfl, rfl⟩

set_option maxRecDepth 20000 in
theorem d_handOn_ok (ad : Nat → Nat) (G : jG) (p0 : Int32) (p1 : Int32) (p2 : Int32) (s : jU) (s2 : jU) (H : f_SR_handOn p0 p1 p2 s = some (.inr s2)) : jConW G m_Law_handOn y_Law_handOn 6 3 18 [.ref (ad 0), .int p0, .int p1, .int p2] (mkC ad G s) (jEq (some (.int 0)) (mkC ad G s2)) := by
  refine jConW.of (by decide +kernel) rfl rfl (Nat.le_of_ble_eq_true rfl) rfl ?_
  refine j_aload_n (pc := 0) 0 (jd k_Law_handOn 0 rfl) rfl ?_
  refine j_iload_n (pc := 1) 1 (jd k_Law_handOn 1 rfl) rfl ?_
  refine j_iload_n (pc := 2) 2 (jd k_Law_handOn 2 rfl) rfl ?_
  refine j_iload_n (pc := 3) 3 (jd k_Law_handOn 3 rfl) rfl ?_
  refine jq_V (pc := 4) (st := []) (jCon.post (c_SR_handOn ad G p0 p1 p2 s (.inr s2) H) (fun r w h => (h : jEq none (mkC ad G s2) r w))) L0_SR_handOn w1028 w1029 w1030 0 rfl rfl (jd k_Law_handOn 4 rfl) rfl (Nat.le_of_ble_eq_true rfl) (by decide) (by decide) (by decide) rfl rfl ?_
  refine j_goto (pc := 7) (tgt := 18) (jd k_Law_handOn 5 rfl) rfl ?_
  refine j_iconst (pc := 18) (v := 0) (jd k_Law_handOn 12 rfl) (by decide) ?_
  exact j_iret (pc := 19) (jd k_Law_handOn 13 rfl) rfl rfl ⟨rfl, rfl⟩

set_option maxRecDepth 20000 in
theorem d_handOn_ISE (ad : Nat → Nat) (G : jG) (p0 : Int32) (p1 : Int32) (p2 : Int32) (s : jU) (H : f_SR_handOn p0 p1 p2 s = some (.inl "java/lang/IllegalStateException")) : jConW G m_Law_handOn y_Law_handOn 6 3 18 [.ref (ad 0), .int p0, .int p1, .int p2] (mkC ad G s) (jEq (some (.int 1)) (mkC ad G s)) := by
  refine jConW.of (by decide +kernel) rfl rfl (Nat.le_of_ble_eq_true rfl) rfl ?_
  refine j_aload_n (pc := 0) 0 (jd k_Law_handOn 0 rfl) rfl ?_
  refine j_iload_n (pc := 1) 1 (jd k_Law_handOn 1 rfl) rfl ?_
  refine j_iload_n (pc := 2) 2 (jd k_Law_handOn 2 rfl) rfl ?_
  refine j_iload_n (pc := 3) 3 (jd k_Law_handOn 3 rfl) rfl ?_
  refine j_cat1V (pc := 4) (st := []) (jCon.post (c_SR_handOn ad G p0 p1 p2 s (.inl "java/lang/IllegalStateException") H) (fun r w h => (h : jTw "java/lang/IllegalStateException" (mkC ad G s) r w))) L0_SR_handOn w1028 w1029 w1030 0 rfl rfl (jd k_Law_handOn 4 rfl) rfl (Nat.le_of_ble_eq_true rfl) (by decide) (by decide) (by decide) rfl rfl (by decide) wt518 wt544 (fun x => ?_)
  refine j_astore (pc := 10) (lv' := [(0, .ref (ad 0)), (1, .int p0), (2, .int p1), (3, .int p2), (4, .ref x)]) (jd k_Law_handOn 6 rfl) rfl (Nat.le_of_ble_eq_true rfl) rfl ?_
  refine j_iconst (pc := 12) (v := 1) (jd k_Law_handOn 7 rfl) (by decide) ?_
  exact j_iret (pc := 13) (jd k_Law_handOn 8 rfl) rfl rfl ⟨rfl, rfl⟩

set_option maxRecDepth 20000 in
theorem d_handOn_IAE (ad : Nat → Nat) (G : jG) (p0 : Int32) (p1 : Int32) (p2 : Int32) (s : jU) (H : f_SR_handOn p0 p1 p2 s = some (.inl "java/lang/IllegalArgumentException")) : jConW G m_Law_handOn y_Law_handOn 6 3 18 [.ref (ad 0), .int p0, .int p1, .int p2] (mkC ad G s) (jEq (some (.int 2)) (mkC ad G s)) := by
  refine jConW.of (by decide +kernel) rfl rfl (Nat.le_of_ble_eq_true rfl) rfl ?_
  refine j_aload_n (pc := 0) 0 (jd k_Law_handOn 0 rfl) rfl ?_
  refine j_iload_n (pc := 1) 1 (jd k_Law_handOn 1 rfl) rfl ?_
  refine j_iload_n (pc := 2) 2 (jd k_Law_handOn 2 rfl) rfl ?_
  refine j_iload_n (pc := 3) 3 (jd k_Law_handOn 3 rfl) rfl ?_
  refine j_cat2V (pc := 4) (st := []) (jCon.post (c_SR_handOn ad G p0 p1 p2 s (.inl "java/lang/IllegalArgumentException") H) (fun r w h => (h : jTw "java/lang/IllegalArgumentException" (mkC ad G s) r w))) L0_SR_handOn w1028 w1029 w1030 0 rfl rfl (jd k_Law_handOn 4 rfl) rfl (Nat.le_of_ble_eq_true rfl) (by decide) (by decide) (by decide) rfl rfl (by decide) (by decide) wt518 wt439 jnc21 wt446 (fun x => ?_)
  refine j_astore (pc := 14) (lv' := [(0, .ref (ad 0)), (1, .int p0), (2, .int p1), (3, .int p2), (4, .ref x)]) (jd k_Law_handOn 9 rfl) rfl (Nat.le_of_ble_eq_true rfl) rfl ?_
  refine j_iconst (pc := 16) (v := 2) (jd k_Law_handOn 10 rfl) (by decide) ?_
  exact j_iret (pc := 17) (jd k_Law_handOn 11 rfl) rfl rfl ⟨rfl, rfl⟩

