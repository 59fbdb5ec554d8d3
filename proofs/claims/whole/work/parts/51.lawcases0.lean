set_option maxRecDepth 20000 in
theorem case_field {ad ae : Nat → Nat} {G : jG} {P : jR → va_W → Prop} {i : Int32} {s : jU} {o : Nat} {L : Nat → Int64} {sg : jS} {k n : Nat} (Rel : jU → jS → Prop) (hin : lwIn G i) (H : FaV Rel [("java/lang/IllegalArgumentException", 1)] s (f_SR_field (lwx G i 1) s) (f_Mod_field (lwx G i 1) sg)) (hk : k + 4 ≤ 601024) (hn : n + 24 ≤ 7293034) (kk : ∀ (s2 : jU) (L2 : Nat → Int64) (g2 : jS), Rel s2 g2 → J G m_Law_law 9 601024 7293034 P 1197 [(0, .ref (G.2.1 2)), (1, .ref (ad 0)), (2, .ref (ae 0)), (3, .ref o), (4, .int i)] [] (lwW ad ae G s2 o L2 g2) (k + 4) (n + 24)) : J G m_Law_law 9 601024 7293034 P 140 [(0, .ref (G.2.1 2)), (1, .ref (ad 0)), (2, .ref (ae 0)), (3, .ref o), (4, .int i)] [] (lwW ad ae G s o L sg) k n := by
  rcases H with ⟨s2, g2, h1, h2, h3, hR⟩ | ⟨E, c, g2, hm, h1, h2, h3, hR⟩
  · refine j_aload_n (pc := 140) 1 (jd k_Law_law_0 25 rfl) rfl ?_
    refine j_aload_n (pc := 141) 0 (jd k_Law_law_0 26 rfl) rfl ?_
    refine j_iload (pc := 142) 4 (jd k_Law_law_0 27 rfl) rfl ?_
    refine j_iconst (pc := 144) (v := 1) (jd k_Law_law_0 28 rfl) (by decide) ?_
    refine j_iadd (pc := 145) (jd k_Law_law_0 29 rfl) ?_
    refine j_xald (pc := 146) (f := G.2.2.2) (L := G.2.2.1) 2 (jd k_Law_law_0 30 rfl) rfl (hin 1 (by decide)) ?_
    refine jq_SW2 (pc := 147) (d := 9) (mc := 601024) (ms := 7293034) (k := k) (n := n) (st := []) (w2 := lwW ad ae G s2 o L sg) (jConW.frR (jConW.frR (d_field_ok ad G (lwx G i 1) s  s2 h1) [(o, .inl (G.1 2, 1, .inr (.inl L)))]) (mkR ae G sg)) LW_Law_field w436 w437 (jd k_Law_law_0 31 rfl) rfl (by decide) (by decide) (by omega) (by omega) rfl rfl rfl ?_
    refine j_istore (pc := 150) (lv' := [(0, .ref (G.2.1 2)), (1, .ref (ad 0)), (2, .ref (ae 0)), (3, .ref o), (4, .int i), (5, .int 0)]) (jd k_Law_law_0 32 rfl) rfl (Nat.le_of_ble_eq_true rfl) rfl ?_
    refine j_aload_n (pc := 152) 2 (jd k_Law_law_0 33 rfl) rfl ?_
    refine j_aload_n (pc := 153) 0 (jd k_Law_law_0 34 rfl) rfl ?_
    refine j_iload (pc := 154) 4 (jd k_Law_law_0 35 rfl) rfl ?_
    refine j_iconst (pc := 156) (v := 1) (jd k_Law_law_0 36 rfl) (by decide) ?_
    refine j_iadd (pc := 157) (jd k_Law_law_0 37 rfl) ?_
    refine j_xald (pc := 158) (f := G.2.2.2) (L := G.2.2.1) 2 (jd k_Law_law_0 38 rfl) rfl (hin 1 (by decide)) ?_
    refine jc_V (pc := 159) (d := 9) (mc := 601024) (ms := 7293034) (k := k + 1) (n := n + 6) (st := []) (w := lwW ad ae G s2 o L g2) (ws := lwW ad ae G s2 o L sg) (jCon.post (jCon.frL (c_Mod_field ae G (lwx G i 1) sg g2 h2) (mkC ad G s2 ++ [(o, .inl (G.1 2, 1, .inr (.inl (L))))])) (fun r w h => (jFrL.eq h : jEq none (lwW ad ae G s2 o L g2) r w))) L0_Mod_field w1274 w1275 w1276 132 rfl rfl (jd k_Law_law_0 39 rfl) rfl (by decide) (by decide) (by omega) (by omega) rfl rfl ?_
    refine j_aload_n (pc := 162) 2 (jd k_Law_law_1 0 rfl) rfl ?_
    refine jc_V (pc := 163) (d := 9) (mc := 601024) (ms := 7293034) (k := k + 1) (n := n + 6) (st := []) (w := lwW ad ae G s2 o L g2) (ws := lwW ad ae G s2 o L g2) (jCon.post (jCon.frL (c_Mod_thrown ae G g2 0 h3) (mkC ad G s2 ++ [(o, .inl (G.1 2, 1, .inr (.inl (L))))])) (fun r w h => (jFrL.eq h : jEq (some (.int 0)) (lwW ad ae G s2 o L g2) r w))) L0_Mod_thrown w1270 w1271 w1272 132 rfl rfl (jd k_Law_law_1 1 rfl) rfl (by decide) (by decide) (by omega) (by omega) rfl rfl ?_
    refine j_iload (pc := 166) 5 (jd k_Law_law_1 2 rfl) rfl ?_
    refine j_icmp_eq (pc := 168) (tgt := 173) (jd k_Law_law_1 3 rfl) rfl (fun h => ?_) (fun h => absurd rfl h)
    refine j_goto (pc := 173) (tgt := 1197) (jd k_Law_law_1 6 rfl) rfl ?_
    refine j_pick (lv' := [(0, .ref (G.2.1 2)), (1, .ref (ad 0)), (2, .ref (ae 0)), (3, .ref o), (4, .int i)]) [0, 1, 2, 3, 4] rfl ?_
    exact j_widen (k := k + 1) (n := n + 6) (by omega) (by omega) (kk s2 (L) g2 hR)
  · cases List.mem_singleton.mp hm
    refine j_aload_n (pc := 140) 1 (jd k_Law_law_0 25 rfl) rfl ?_
    refine j_aload_n (pc := 141) 0 (jd k_Law_law_0 26 rfl) rfl ?_
    refine j_iload (pc := 142) 4 (jd k_Law_law_0 27 rfl) rfl ?_
    refine j_iconst (pc := 144) (v := 1) (jd k_Law_law_0 28 rfl) (by decide) ?_
    refine j_iadd (pc := 145) (jd k_Law_law_0 29 rfl) ?_
    refine j_xald (pc := 146) (f := G.2.2.2) (L := G.2.2.1) 2 (jd k_Law_law_0 30 rfl) rfl (hin 1 (by decide)) ?_
    refine jq_SW2 (pc := 147) (d := 9) (mc := 601024) (ms := 7293034) (k := k) (n := n) (st := []) (w2 := lwW ad ae G s o L sg) (jConW.frR (jConW.frR (d_field_IAE ad G (lwx G i 1) s  h1) [(o, .inl (G.1 2, 1, .inr (.inl L)))]) (mkR ae G sg)) LW_Law_field w436 w437 (jd k_Law_law_0 31 rfl) rfl (by decide) (by decide) (by omega) (by omega) rfl rfl rfl ?_
    refine j_istore (pc := 150) (lv' := [(0, .ref (G.2.1 2)), (1, .ref (ad 0)), (2, .ref (ae 0)), (3, .ref o), (4, .int i), (5, .int 1)]) (jd k_Law_law_0 32 rfl) rfl (Nat.le_of_ble_eq_true rfl) rfl ?_
    refine j_aload_n (pc := 152) 2 (jd k_Law_law_0 33 rfl) rfl ?_
    refine j_aload_n (pc := 153) 0 (jd k_Law_law_0 34 rfl) rfl ?_
    refine j_iload (pc := 154) 4 (jd k_Law_law_0 35 rfl) rfl ?_
    refine j_iconst (pc := 156) (v := 1) (jd k_Law_law_0 36 rfl) (by decide) ?_
    refine j_iadd (pc := 157) (jd k_Law_law_0 37 rfl) ?_
    refine j_xald (pc := 158) (f := G.2.2.2) (L := G.2.2.1) 2 (jd k_Law_law_0 38 rfl) rfl (hin 1 (by decide)) ?_
    refine jc_V (pc := 159) (d := 9) (mc := 601024) (ms := 7293034) (k := k + 1) (n := n + 6) (st := []) (w := lwW ad ae G s o L g2) (ws := lwW ad ae G s o L sg) (jCon.post (jCon.frL (c_Mod_field ae G (lwx G i 1) sg g2 h2) (mkC ad G s ++ [(o, .inl (G.1 2, 1, .inr (.inl (L))))])) (fun r w h => (jFrL.eq h : jEq none (lwW ad ae G s o L g2) r w))) L0_Mod_field w1274 w1275 w1276 132 rfl rfl (jd k_Law_law_0 39 rfl) rfl (by decide) (by decide) (by omega) (by omega) rfl rfl ?_
    refine j_aload_n (pc := 162) 2 (jd k_Law_law_1 0 rfl) rfl ?_
    refine jc_V (pc := 163) (d := 9) (mc := 601024) (ms := 7293034) (k := k + 1) (n := n + 6) (st := []) (w := lwW ad ae G s o L g2) (ws := lwW ad ae G s o L g2) (jCon.post (jCon.frL (c_Mod_thrown ae G g2 1 h3) (mkC ad G s ++ [(o, .inl (G.1 2, 1, .inr (.inl (L))))])) (fun r w h => (jFrL.eq h : jEq (some (.int 1)) (lwW ad ae G s o L g2) r w))) L0_Mod_thrown w1270 w1271 w1272 132 rfl rfl (jd k_Law_law_1 1 rfl) rfl (by decide) (by decide) (by omega) (by omega) rfl rfl ?_
    refine j_iload (pc := 166) 5 (jd k_Law_law_1 2 rfl) rfl ?_
    refine j_icmp_eq (pc := 168) (tgt := 173) (jd k_Law_law_1 3 rfl) rfl (fun h => ?_) (fun h => absurd rfl h)
    refine j_goto (pc := 173) (tgt := 1197) (jd k_Law_law_1 6 rfl) rfl ?_
    refine j_pick (lv' := [(0, .ref (G.2.1 2)), (1, .ref (ad 0)), (2, .ref (ae 0)), (3, .ref o), (4, .int i)]) [0, 1, 2, 3, 4] rfl ?_
    exact j_widen (k := k + 1) (n := n + 6) (by omega) (by omega) (kk s (L) g2 hR)

set_option maxRecDepth 20000 in
theorem case_point {ad ae : Nat → Nat} {G : jG} {P : jR → va_W → Prop} {i : Int32} {s : jU} {o : Nat} {L : Nat → Int64} {sg : jS} {k n : Nat} (Rel : jU → jS → Prop) (hin : lwIn G i) (H : FaI Rel [("java/lang/IllegalArgumentException", 1), ("java/lang/IllegalStateException", 2)] s (f_SR_point (lwx G i 1) (lwx G i 2) s) (f_Mod_point (lwx G i 1) (lwx G i 2) sg)) (hk : k + 4 ≤ 601024) (hn : n + 24 ≤ 7293034) (kk : ∀ (s2 : jU) (L2 : Nat → Int64) (g2 : jS), Rel s2 g2 → J G m_Law_law 9 601024 7293034 P 1197 [(0, .ref (G.2.1 2)), (1, .ref (ad 0)), (2, .ref (ae 0)), (3, .ref o), (4, .int i)] [] (lwW ad ae G s2 o L2 g2) (k + 4) (n + 24)) : J G m_Law_law 9 601024 7293034 P 176 [(0, .ref (G.2.1 2)), (1, .ref (ad 0)), (2, .ref (ae 0)), (3, .ref o), (4, .int i)] [] (lwW ad ae G s o L sg) k n := by
  rcases H with ⟨v, s2, g2, h1, h2, h3, hR⟩ | ⟨E, c, b, g2, hm, h1, h2, h3, hR⟩
  · refine j_aload_n (pc := 176) 1 (jd k_Law_law_1 7 rfl) rfl ?_
    refine j_aload_n (pc := 177) 0 (jd k_Law_law_1 8 rfl) rfl ?_
    refine j_iload (pc := 178) 4 (jd k_Law_law_1 9 rfl) rfl ?_
    refine j_iconst (pc := 180) (v := 1) (jd k_Law_law_1 10 rfl) (by decide) ?_
    refine j_iadd (pc := 181) (jd k_Law_law_1 11 rfl) ?_
    refine j_xald (pc := 182) (f := G.2.2.2) (L := G.2.2.1) 2 (jd k_Law_law_1 12 rfl) rfl (hin 1 (by decide)) ?_
    refine j_aload_n (pc := 183) 0 (jd k_Law_law_1 13 rfl) rfl ?_
    refine j_iload (pc := 184) 4 (jd k_Law_law_1 14 rfl) rfl ?_
    refine j_iconst (pc := 186) (v := 2) (jd k_Law_law_1 15 rfl) (by decide) ?_
    refine j_iadd (pc := 187) (jd k_Law_law_1 16 rfl) ?_
    refine j_xald (pc := 188) (f := G.2.2.2) (L := G.2.2.1) 2 (jd k_Law_law_1 17 rfl) rfl (hin 2 (by decide)) ?_
    refine j_aload_n (pc := 189) 3 (jd k_Law_law_1 18 rfl) rfl ?_
    refine jq_SW (pc := 190) (d := 9) (mc := 601024) (ms := 7293034) (k := k) (n := n) (st := []) (w2 := lwW ad ae G s2 o (vp_updL L (0 : Int32).toNatClampNeg v.toInt64) sg) (jConW.frR (d_point_ok ad G (lwx G i 1) (lwx G i 2) s o L  v s2 h1) (mkR ae G sg)) LW_Law_point w515 w516 (jd k_Law_law_1 19 rfl) rfl (by decide) (by decide) (by omega) (by omega) rfl rfl rfl ?_
    refine j_istore (pc := 193) (lv' := [(0, .ref (G.2.1 2)), (1, .ref (ad 0)), (2, .ref (ae 0)), (3, .ref o), (4, .int i), (5, .int 0)]) (jd k_Law_law_1 20 rfl) rfl (Nat.le_of_ble_eq_true rfl) rfl ?_
    refine j_aload_n (pc := 195) 2 (jd k_Law_law_1 21 rfl) rfl ?_
    refine j_aload_n (pc := 196) 0 (jd k_Law_law_1 22 rfl) rfl ?_
    refine j_iload (pc := 197) 4 (jd k_Law_law_1 23 rfl) rfl ?_
    refine j_iconst (pc := 199) (v := 1) (jd k_Law_law_1 24 rfl) (by decide) ?_
    refine j_iadd (pc := 200) (jd k_Law_law_1 25 rfl) ?_
    refine j_xald (pc := 201) (f := G.2.2.2) (L := G.2.2.1) 2 (jd k_Law_law_1 26 rfl) rfl (hin 1 (by decide)) ?_
    refine j_aload_n (pc := 202) 0 (jd k_Law_law_1 27 rfl) rfl ?_
    refine j_iload (pc := 203) 4 (jd k_Law_law_1 28 rfl) rfl ?_
    refine j_iconst (pc := 205) (v := 2) (jd k_Law_law_1 29 rfl) (by decide) ?_
    refine j_iadd (pc := 206) (jd k_Law_law_1 30 rfl) ?_
    refine j_xald (pc := 207) (f := G.2.2.2) (L := G.2.2.1) 2 (jd k_Law_law_1 31 rfl) rfl (hin 2 (by decide)) ?_
    refine jc_V (pc := 208) (d := 9) (mc := 601024) (ms := 7293034) (k := k + 1) (n := n + 6) (st := []) (w := lwW ad ae G s2 o (vp_updL L (0 : Int32).toNatClampNeg v.toInt64) g2) (ws := lwW ad ae G s2 o (vp_updL L (0 : Int32).toNatClampNeg v.toInt64) sg) (jCon.post (jCon.frL (c_Mod_point ae G (lwx G i 1) (lwx G i 2) sg (v, g2) h2) (mkC ad G s2 ++ [(o, .inl (G.1 2, 1, .inr (.inl (vp_updL L (0 : Int32).toNatClampNeg v.toInt64))))])) (fun r w h => (jFrL.eq h : jEq (some (.int v)) (lwW ad ae G s2 o (vp_updL L (0 : Int32).toNatClampNeg v.toInt64) g2) r w))) L0_Mod_point w1278 w1279 w1280 132 rfl rfl (jd k_Law_law_1 32 rfl) rfl (by decide) (by decide) (by omega) (by omega) rfl rfl ?_
    refine j_istore (pc := 211) (lv' := [(0, .ref (G.2.1 2)), (1, .ref (ad 0)), (2, .ref (ae 0)), (3, .ref o), (4, .int i), (5, .int 0), (6, .int v)]) (jd k_Law_law_1 33 rfl) rfl (Nat.le_of_ble_eq_true rfl) rfl ?_
    refine j_aload_n (pc := 213) 2 (jd k_Law_law_1 34 rfl) rfl ?_
    refine jc_V (pc := 214) (d := 9) (mc := 601024) (ms := 7293034) (k := k + 1) (n := n + 6) (st := []) (w := lwW ad ae G s2 o (vp_updL L (0 : Int32).toNatClampNeg v.toInt64) g2) (ws := lwW ad ae G s2 o (vp_updL L (0 : Int32).toNatClampNeg v.toInt64) g2) (jCon.post (jCon.frL (c_Mod_thrown ae G g2 0 h3) (mkC ad G s2 ++ [(o, .inl (G.1 2, 1, .inr (.inl (vp_updL L (0 : Int32).toNatClampNeg v.toInt64))))])) (fun r w h => (jFrL.eq h : jEq (some (.int 0)) (lwW ad ae G s2 o (vp_updL L (0 : Int32).toNatClampNeg v.toInt64) g2) r w))) L0_Mod_thrown w1270 w1271 w1272 132 rfl rfl (jd k_Law_law_1 35 rfl) rfl (by decide) (by decide) (by omega) (by omega) rfl rfl ?_
    refine j_iload (pc := 217) 5 (jd k_Law_law_1 36 rfl) rfl ?_
    refine j_icmp_eq (pc := 219) (tgt := 224) (jd k_Law_law_1 37 rfl) rfl (fun h => ?_) (fun h => absurd rfl h)
    refine j_iload (pc := 224) 5 (jd k_Law_law_2 0 rfl) rfl ?_
    refine j_if_ne (pc := 226) (tgt := 241) (jd k_Law_law_2 1 rfl) rfl (fun h => absurd rfl h) (fun h => ?_)
    refine j_aload_n (pc := 229) 3 (jd k_Law_law_2 2 rfl) rfl ?_
    refine j_iconst (pc := 230) (v := 0) (jd k_Law_law_2 3 rfl) (by decide) ?_
    refine j_lald (pc := 231) (f := vp_updL L (0 : Int32).toNatClampNeg v.toInt64) 131 (jd k_Law_law_2 4 rfl) rfl (jin.vp (by decide)) ?_
    rw [vp_updL_at]
    refine j_iload (pc := 232) 6 (jd k_Law_law_2 5 rfl) rfl ?_
    refine j_i2l (pc := 234) (jd k_Law_law_2 6 rfl) ?_
    refine j_lcmp (pc := 235) (jd k_Law_law_2 7 rfl) ?_
    refine j_if_eq (pc := 236) (tgt := 241) (jd k_Law_law_2 8 rfl) rfl (fun h => ?_) (fun h => absurd (lg_cmp_self _) h)
    refine j_goto (pc := 241) (tgt := 1197) (jd k_Law_law_2 11 rfl) rfl ?_
    refine j_pick (lv' := [(0, .ref (G.2.1 2)), (1, .ref (ad 0)), (2, .ref (ae 0)), (3, .ref o), (4, .int i)]) [0, 1, 2, 3, 4] rfl ?_
    exact j_widen (k := k + 1) (n := n + 6) (by omega) (by omega) (kk s2 (vp_updL L (0 : Int32).toNatClampNeg v.toInt64) g2 hR)
  · rcases List.mem_cons.mp hm with hm | hm
    · cases hm
      refine j_aload_n (pc := 176) 1 (jd k_Law_law_1 7 rfl) rfl ?_
      refine j_aload_n (pc := 177) 0 (jd k_Law_law_1 8 rfl) rfl ?_
      refine j_iload (pc := 178) 4 (jd k_Law_law_1 9 rfl) rfl ?_
      refine j_iconst (pc := 180) (v := 1) (jd k_Law_law_1 10 rfl) (by decide) ?_
      refine j_iadd (pc := 181) (jd k_Law_law_1 11 rfl) ?_
      refine j_xald (pc := 182) (f := G.2.2.2) (L := G.2.2.1) 2 (jd k_Law_law_1 12 rfl) rfl (hin 1 (by decide)) ?_
      refine j_aload_n (pc := 183) 0 (jd k_Law_law_1 13 rfl) rfl ?_
      refine j_iload (pc := 184) 4 (jd k_Law_law_1 14 rfl) rfl ?_
      refine j_iconst (pc := 186) (v := 2) (jd k_Law_law_1 15 rfl) (by decide) ?_
      refine j_iadd (pc := 187) (jd k_Law_law_1 16 rfl) ?_
      refine j_xald (pc := 188) (f := G.2.2.2) (L := G.2.2.1) 2 (jd k_Law_law_1 17 rfl) rfl (hin 2 (by decide)) ?_
      refine j_aload_n (pc := 189) 3 (jd k_Law_law_1 18 rfl) rfl ?_
      refine jq_SW (pc := 190) (d := 9) (mc := 601024) (ms := 7293034) (k := k) (n := n) (st := []) (w2 := lwW ad ae G s o L sg) (jConW.frR (d_point_IAE ad G (lwx G i 1) (lwx G i 2) s o L  h1) (mkR ae G sg)) LW_Law_point w515 w516 (jd k_Law_law_1 19 rfl) rfl (by decide) (by decide) (by omega) (by omega) rfl rfl rfl ?_
      refine j_istore (pc := 193) (lv' := [(0, .ref (G.2.1 2)), (1, .ref (ad 0)), (2, .ref (ae 0)), (3, .ref o), (4, .int i), (5, .int 1)]) (jd k_Law_law_1 20 rfl) rfl (Nat.le_of_ble_eq_true rfl) rfl ?_
      refine j_aload_n (pc := 195) 2 (jd k_Law_law_1 21 rfl) rfl ?_
      refine j_aload_n (pc := 196) 0 (jd k_Law_law_1 22 rfl) rfl ?_
      refine j_iload (pc := 197) 4 (jd k_Law_law_1 23 rfl) rfl ?_
      refine j_iconst (pc := 199) (v := 1) (jd k_Law_law_1 24 rfl) (by decide) ?_
      refine j_iadd (pc := 200) (jd k_Law_law_1 25 rfl) ?_
      refine j_xald (pc := 201) (f := G.2.2.2) (L := G.2.2.1) 2 (jd k_Law_law_1 26 rfl) rfl (hin 1 (by decide)) ?_
      refine j_aload_n (pc := 202) 0 (jd k_Law_law_1 27 rfl) rfl ?_
      refine j_iload (pc := 203) 4 (jd k_Law_law_1 28 rfl) rfl ?_
      refine j_iconst (pc := 205) (v := 2) (jd k_Law_law_1 29 rfl) (by decide) ?_
      refine j_iadd (pc := 206) (jd k_Law_law_1 30 rfl) ?_
      refine j_xald (pc := 207) (f := G.2.2.2) (L := G.2.2.1) 2 (jd k_Law_law_1 31 rfl) rfl (hin 2 (by decide)) ?_
      refine jc_V (pc := 208) (d := 9) (mc := 601024) (ms := 7293034) (k := k + 1) (n := n + 6) (st := []) (w := lwW ad ae G s o L g2) (ws := lwW ad ae G s o L sg) (jCon.post (jCon.frL (c_Mod_point ae G (lwx G i 1) (lwx G i 2) sg (b, g2) h2) (mkC ad G s ++ [(o, .inl (G.1 2, 1, .inr (.inl (L))))])) (fun r w h => (jFrL.eq h : jEq (some (.int b)) (lwW ad ae G s o L g2) r w))) L0_Mod_point w1278 w1279 w1280 132 rfl rfl (jd k_Law_law_1 32 rfl) rfl (by decide) (by decide) (by omega) (by omega) rfl rfl ?_
      refine j_istore (pc := 211) (lv' := [(0, .ref (G.2.1 2)), (1, .ref (ad 0)), (2, .ref (ae 0)), (3, .ref o), (4, .int i), (5, .int 1), (6, .int b)]) (jd k_Law_law_1 33 rfl) rfl (Nat.le_of_ble_eq_true rfl) rfl ?_
      refine j_aload_n (pc := 213) 2 (jd k_Law_law_1 34 rfl) rfl ?_
      refine jc_V (pc := 214) (d := 9) (mc := 601024) (ms := 7293034) (k := k + 1) (n := n + 6) (st := []) (w := lwW ad ae G s o L g2) (ws := lwW ad ae G s o L g2) (jCon.post (jCon.frL (c_Mod_thrown ae G g2 1 h3) (mkC ad G s ++ [(o, .inl (G.1 2, 1, .inr (.inl (L))))])) (fun r w h => (jFrL.eq h : jEq (some (.int 1)) (lwW ad ae G s o L g2) r w))) L0_Mod_thrown w1270 w1271 w1272 132 rfl rfl (jd k_Law_law_1 35 rfl) rfl (by decide) (by decide) (by omega) (by omega) rfl rfl ?_
      refine j_iload (pc := 217) 5 (jd k_Law_law_1 36 rfl) rfl ?_
      refine j_icmp_eq (pc := 219) (tgt := 224) (jd k_Law_law_1 37 rfl) rfl (fun h => ?_) (fun h => absurd rfl h)
      refine j_iload (pc := 224) 5 (jd k_Law_law_2 0 rfl) rfl ?_
      refine j_if_ne (pc := 226) (tgt := 241) (jd k_Law_law_2 1 rfl) rfl (fun h => ?_) (fun h => absurd h (by decide))
      refine j_goto (pc := 241) (tgt := 1197) (jd k_Law_law_2 11 rfl) rfl ?_
      refine j_pick (lv' := [(0, .ref (G.2.1 2)), (1, .ref (ad 0)), (2, .ref (ae 0)), (3, .ref o), (4, .int i)]) [0, 1, 2, 3, 4] rfl ?_
      exact j_widen (k := k + 1) (n := n + 6) (by omega) (by omega) (kk s (L) g2 hR)
    · cases List.mem_singleton.mp hm
      refine j_aload_n (pc := 176) 1 (jd k_Law_law_1 7 rfl) rfl ?_
      refine j_aload_n (pc := 177) 0 (jd k_Law_law_1 8 rfl) rfl ?_
      refine j_iload (pc := 178) 4 (jd k_Law_law_1 9 rfl) rfl ?_
      refine j_iconst (pc := 180) (v := 1) (jd k_Law_law_1 10 rfl) (by decide) ?_
      refine j_iadd (pc := 181) (jd k_Law_law_1 11 rfl) ?_
      refine j_xald (pc := 182) (f := G.2.2.2) (L := G.2.2.1) 2 (jd k_Law_law_1 12 rfl) rfl (hin 1 (by decide)) ?_
      refine j_aload_n (pc := 183) 0 (jd k_Law_law_1 13 rfl) rfl ?_
      refine j_iload (pc := 184) 4 (jd k_Law_law_1 14 rfl) rfl ?_
      refine j_iconst (pc := 186) (v := 2) (jd k_Law_law_1 15 rfl) (by decide) ?_
      refine j_iadd (pc := 187) (jd k_Law_law_1 16 rfl) ?_
      refine j_xald (pc := 188) (f := G.2.2.2) (L := G.2.2.1) 2 (jd k_Law_law_1 17 rfl) rfl (hin 2 (by decide)) ?_
      refine j_aload_n (pc := 189) 3 (jd k_Law_law_1 18 rfl) rfl ?_
      refine jq_SW (pc := 190) (d := 9) (mc := 601024) (ms := 7293034) (k := k) (n := n) (st := []) (w2 := lwW ad ae G s o L sg) (jConW.frR (d_point_ISE ad G (lwx G i 1) (lwx G i 2) s o L  h1) (mkR ae G sg)) LW_Law_point w515 w516 (jd k_Law_law_1 19 rfl) rfl (by decide) (by decide) (by omega) (by omega) rfl rfl rfl ?_
      refine j_istore (pc := 193) (lv' := [(0, .ref (G.2.1 2)), (1, .ref (ad 0)), (2, .ref (ae 0)), (3, .ref o), (4, .int i), (5, .int 2)]) (jd k_Law_law_1 20 rfl) rfl (Nat.le_of_ble_eq_true rfl) rfl ?_
      refine j_aload_n (pc := 195) 2 (jd k_Law_law_1 21 rfl) rfl ?_
      refine j_aload_n (pc := 196) 0 (jd k_Law_law_1 22 rfl) rfl ?_
      refine j_iload (pc := 197) 4 (jd k_Law_law_1 23 rfl) rfl ?_
      refine j_iconst (pc := 199) (v := 1) (jd k_Law_law_1 24 rfl) (by decide) ?_
      refine j_iadd (pc := 200) (jd k_Law_law_1 25 rfl) ?_
      refine j_xald (pc := 201) (f := G.2.2.2) (L := G.2.2.1) 2 (jd k_Law_law_1 26 rfl) rfl (hin 1 (by decide)) ?_
      refine j_aload_n (pc := 202) 0 (jd k_Law_law_1 27 rfl) rfl ?_
      refine j_iload (pc := 203) 4 (jd k_Law_law_1 28 rfl) rfl ?_
      refine j_iconst (pc := 205) (v := 2) (jd k_Law_law_1 29 rfl) (by decide) ?_
      refine j_iadd (pc := 206) (jd k_Law_law_1 30 rfl) ?_
      refine j_xald (pc := 207) (f := G.2.2.2) (L := G.2.2.1) 2 (jd k_Law_law_1 31 rfl) rfl (hin 2 (by decide)) ?_
      refine jc_V (pc := 208) (d := 9) (mc := 601024) (ms := 7293034) (k := k + 1) (n := n + 6) (st := []) (w := lwW ad ae G s o L g2) (ws := lwW ad ae G s o L sg) (jCon.post (jCon.frL (c_Mod_point ae G (lwx G i 1) (lwx G i 2) sg (b, g2) h2) (mkC ad G s ++ [(o, .inl (G.1 2, 1, .inr (.inl (L))))])) (fun r w h => (jFrL.eq h : jEq (some (.int b)) (lwW ad ae G s o L g2) r w))) L0_Mod_point w1278 w1279 w1280 132 rfl rfl (jd k_Law_law_1 32 rfl) rfl (by decide) (by decide) (by omega) (by omega) rfl rfl ?_
      refine j_istore (pc := 211) (lv' := [(0, .ref (G.2.1 2)), (1, .ref (ad 0)), (2, .ref (ae 0)), (3, .ref o), (4, .int i), (5, .int 2), (6, .int b)]) (jd k_Law_law_1 33 rfl) rfl (Nat.le_of_ble_eq_true rfl) rfl ?_
      refine j_aload_n (pc := 213) 2 (jd k_Law_law_1 34 rfl) rfl ?_
      refine jc_V (pc := 214) (d := 9) (mc := 601024) (ms := 7293034) (k := k + 1) (n := n + 6) (st := []) (w := lwW ad ae G s o L g2) (ws := lwW ad ae G s o L g2) (jCon.post (jCon.frL (c_Mod_thrown ae G g2 2 h3) (mkC ad G s ++ [(o, .inl (G.1 2, 1, .inr (.inl (L))))])) (fun r w h => (jFrL.eq h : jEq (some (.int 2)) (lwW ad ae G s o L g2) r w))) L0_Mod_thrown w1270 w1271 w1272 132 rfl rfl (jd k_Law_law_1 35 rfl) rfl (by decide) (by decide) (by omega) (by omega) rfl rfl ?_
      refine j_iload (pc := 217) 5 (jd k_Law_law_1 36 rfl) rfl ?_
      refine j_icmp_eq (pc := 219) (tgt := 224) (jd k_Law_law_1 37 rfl) rfl (fun h => ?_) (fun h => absurd rfl h)
      refine j_iload (pc := 224) 5 (jd k_Law_law_2 0 rfl) rfl ?_
      refine j_if_ne (pc := 226) (tgt := 241) (jd k_Law_law_2 1 rfl) rfl (fun h => ?_) (fun h => absurd h (by decide))
      refine j_goto (pc := 241) (tgt := 1197) (jd k_Law_law_2 11 rfl) rfl ?_
      refine j_pick (lv' := [(0, .ref (G.2.1 2)), (1, .ref (ad 0)), (2, .ref (ae 0)), (3, .ref o), (4, .int i)]) [0, 1, 2, 3, 4] rfl ?_
      exact j_widen (k := k + 1) (n := n + 6) (by omega) (by omega) (kk s (L) g2 hR)

set_option maxRecDepth 20000 in
theorem case_combine {ad ae : Nat → Nat} {G : jG} {P : jR → va_W → Prop} {i : Int32} {s : jU} {o : Nat} {L : Nat → Int64} {sg : jS} {k n : Nat} (Rel : jU → jS → Prop) (hin : lwIn G i) (H : FaP Rel [("java/lang/IllegalArgumentException", 1), ("java/lang/IllegalStateException", 2)] s (f_SR_combine (lwx G i 1) s) (f_Mod_combine (lwx G i 1) sg)) (hk : k + 4 ≤ 601024) (hn : n + 24 ≤ 7293034) (kk : ∀ (s2 : jU) (L2 : Nat → Int64) (g2 : jS), Rel s2 g2 → J G m_Law_law 9 601024 7293034 P 1197 [(0, .ref (G.2.1 2)), (1, .ref (ad 0)), (2, .ref (ae 0)), (3, .ref o), (4, .int i)] [] (lwW ad ae G s2 o L2 g2) (k + 4) (n + 24)) : J G m_Law_law 9 601024 7293034 P 244 [(0, .ref (G.2.1 2)), (1, .ref (ad 0)), (2, .ref (ae 0)), (3, .ref o), (4, .int i)] [] (lwW ad ae G s o L sg) k n := by
  rcases H with ⟨v, g2, h1, h2, h3, hR⟩ | ⟨E, c, b, g2, hm, h1, h2, h3, hR⟩
  · refine j_aload_n (pc := 244) 1 (jd k_Law_law_2 12 rfl) rfl ?_
    refine j_aload_n (pc := 245) 0 (jd k_Law_law_2 13 rfl) rfl ?_
    refine j_iload (pc := 246) 4 (jd k_Law_law_2 14 rfl) rfl ?_
    refine j_iconst (pc := 248) (v := 1) (jd k_Law_law_2 15 rfl) (by decide) ?_
    refine j_iadd (pc := 249) (jd k_Law_law_2 16 rfl) ?_
    refine j_xald (pc := 250) (f := G.2.2.2) (L := G.2.2.1) 2 (jd k_Law_law_2 17 rfl) rfl (hin 1 (by decide)) ?_
    refine j_aload_n (pc := 251) 3 (jd k_Law_law_2 18 rfl) rfl ?_
    refine jq_SW (pc := 252) (d := 9) (mc := 601024) (ms := 7293034) (k := k) (n := n) (st := []) (w2 := lwW ad ae G s o (vp_updL L (0 : Int32).toNatClampNeg v.toInt64) sg) (jConW.frR (d_combine_ok ad G (lwx G i 1) s o L  v h1) (mkR ae G sg)) LW_Law_combine w566 w567 (jd k_Law_law_2 19 rfl) rfl (by decide) (by decide) (by omega) (by omega) rfl rfl rfl ?_
    refine j_istore (pc := 255) (lv' := [(0, .ref (G.2.1 2)), (1, .ref (ad 0)), (2, .ref (ae 0)), (3, .ref o), (4, .int i), (5, .int 0)]) (jd k_Law_law_2 20 rfl) rfl (Nat.le_of_ble_eq_true rfl) rfl ?_
    refine j_aload_n (pc := 257) 2 (jd k_Law_law_2 21 rfl) rfl ?_
    refine j_aload_n (pc := 258) 0 (jd k_Law_law_2 22 rfl) rfl ?_
    refine j_iload (pc := 259) 4 (jd k_Law_law_2 23 rfl) rfl ?_
    refine j_iconst (pc := 261) (v := 1) (jd k_Law_law_2 24 rfl) (by decide) ?_
    refine j_iadd (pc := 262) (jd k_Law_law_2 25 rfl) ?_
    refine j_xald (pc := 263) (f := G.2.2.2) (L := G.2.2.1) 2 (jd k_Law_law_2 26 rfl) rfl (hin 1 (by decide)) ?_
    refine jc_V (pc := 264) (d := 9) (mc := 601024) (ms := 7293034) (k := k + 1) (n := n + 6) (st := []) (w := lwW ad ae G s o (vp_updL L (0 : Int32).toNatClampNeg v.toInt64) g2) (ws := lwW ad ae G s o (vp_updL L (0 : Int32).toNatClampNeg v.toInt64) sg) (jCon.post (jCon.frL (c_Mod_combine ae G (lwx G i 1) sg (v, g2) h2) (mkC ad G s ++ [(o, .inl (G.1 2, 1, .inr (.inl (vp_updL L (0 : Int32).toNatClampNeg v.toInt64))))])) (fun r w h => (jFrL.eq h : jEq (some (.int v)) (lwW ad ae G s o (vp_updL L (0 : Int32).toNatClampNeg v.toInt64) g2) r w))) L0_Mod_combine w1288 w1289 w1290 132 rfl rfl (jd k_Law_law_2 27 rfl) rfl (by decide) (by decide) (by omega) (by omega) rfl rfl ?_
    refine j_istore (pc := 267) (lv' := [(0, .ref (G.2.1 2)), (1, .ref (ad 0)), (2, .ref (ae 0)), (3, .ref o), (4, .int i), (5, .int 0), (6, .int v)]) (jd k_Law_law_2 28 rfl) rfl (Nat.le_of_ble_eq_true rfl) rfl ?_
    refine j_aload_n (pc := 269) 2 (jd k_Law_law_2 29 rfl) rfl ?_
    refine jc_V (pc := 270) (d := 9) (mc := 601024) (ms := 7293034) (k := k + 1) (n := n + 6) (st := []) (w := lwW ad ae G s o (vp_updL L (0 : Int32).toNatClampNeg v.toInt64) g2) (ws := lwW ad ae G s o (vp_updL L (0 : Int32).toNatClampNeg v.toInt64) g2) (jCon.post (jCon.frL (c_Mod_thrown ae G g2 0 h3) (mkC ad G s ++ [(o, .inl (G.1 2, 1, .inr (.inl (vp_updL L (0 : Int32).toNatClampNeg v.toInt64))))])) (fun r w h => (jFrL.eq h : jEq (some (.int 0)) (lwW ad ae G s o (vp_updL L (0 : Int32).toNatClampNeg v.toInt64) g2) r w))) L0_Mod_thrown w1270 w1271 w1272 132 rfl rfl (jd k_Law_law_2 30 rfl) rfl (by decide) (by decide) (by omega) (by omega) rfl rfl ?_
    refine j_iload (pc := 273) 5 (jd k_Law_law_2 31 rfl) rfl ?_
    refine j_icmp_eq (pc := 275) (tgt := 280) (jd k_Law_law_2 32 rfl) rfl (fun h => ?_) (fun h => absurd rfl h)
    refine j_iload (pc := 280) 5 (jd k_Law_law_2 35 rfl) rfl ?_
    refine j_if_ne (pc := 282) (tgt := 297) (jd k_Law_law_2 36 rfl) rfl (fun h => absurd rfl h) (fun h => ?_)
    refine j_aload_n (pc := 285) 3 (jd k_Law_law_2 37 rfl) rfl ?_
    refine j_iconst (pc := 286) (v := 0) (jd k_Law_law_2 38 rfl) (by decide) ?_
    refine j_lald (pc := 287) (f := vp_updL L (0 : Int32).toNatClampNeg v.toInt64) 131 (jd k_Law_law_2 39 rfl) rfl (jin.vp (by decide)) ?_
    rw [vp_updL_at]
    refine j_iload (pc := 288) 6 (jd k_Law_law_3 0 rfl) rfl ?_
    refine j_i2l (pc := 290) (jd k_Law_law_3 1 rfl) ?_
    refine j_lcmp (pc := 291) (jd k_Law_law_3 2 rfl) ?_
    refine j_if_eq (pc := 292) (tgt := 297) (jd k_Law_law_3 3 rfl) rfl (fun h => ?_) (fun h => absurd (lg_cmp_self _) h)
    refine j_goto (pc := 297) (tgt := 1197) (jd k_Law_law_3 6 rfl) rfl ?_
    refine j_pick (lv' := [(0, .ref (G.2.1 2)), (1, .ref (ad 0)), (2, .ref (ae 0)), (3, .ref o), (4, .int i)]) [0, 1, 2, 3, 4] rfl ?_
    exact j_widen (k := k + 1) (n := n + 6) (by omega) (by omega) (kk s (vp_updL L (0 : Int32).toNatClampNeg v.toInt64) g2 hR)
  · rcases List.mem_cons.mp hm with hm | hm
    · cases hm
      refine j_aload_n (pc := 244) 1 (jd k_Law_law_2 12 rfl) rfl ?_
      refine j_aload_n (pc := 245) 0 (jd k_Law_law_2 13 rfl) rfl ?_
      refine j_iload (pc := 246) 4 (jd k_Law_law_2 14 rfl) rfl ?_
      refine j_iconst (pc := 248) (v := 1) (jd k_Law_law_2 15 rfl) (by decide) ?_
      refine j_iadd (pc := 249) (jd k_Law_law_2 16 rfl) ?_
      refine j_xald (pc := 250) (f := G.2.2.2) (L := G.2.2.1) 2 (jd k_Law_law_2 17 rfl) rfl (hin 1 (by decide)) ?_
      refine j_aload_n (pc := 251) 3 (jd k_Law_law_2 18 rfl) rfl ?_
      refine jq_SW (pc := 252) (d := 9) (mc := 601024) (ms := 7293034) (k := k) (n := n) (st := []) (w2 := lwW ad ae G s o L sg) (jConW.frR (d_combine_IAE ad G (lwx G i 1) s o L  h1) (mkR ae G sg)) LW_Law_combine w566 w567 (jd k_Law_law_2 19 rfl) rfl (by decide) (by decide) (by omega) (by omega) rfl rfl rfl ?_
      refine j_istore (pc := 255) (lv' := [(0, .ref (G.2.1 2)), (1, .ref (ad 0)), (2, .ref (ae 0)), (3, .ref o), (4, .int i), (5, .int 1)]) (jd k_Law_law_2 20 rfl) rfl (Nat.le_of_ble_eq_true rfl) rfl ?_
      refine j_aload_n (pc := 257) 2 (jd k_Law_law_2 21 rfl) rfl ?_
      refine j_aload_n (pc := 258) 0 (jd k_Law_law_2 22 rfl) rfl ?_
      refine j_iload (pc := 259) 4 (jd k_Law_law_2 23 rfl) rfl ?_
      refine j_iconst (pc := 261) (v := 1) (jd k_Law_law_2 24 rfl) (by decide) ?_
      refine j_iadd (pc := 262) (jd k_Law_law_2 25 rfl) ?_
      refine j_xald (pc := 263) (f := G.2.2.2) (L := G.2.2.1) 2 (jd k_Law_law_2 26 rfl) rfl (hin 1 (by decide)) ?_
      refine jc_V (pc := 264) (d := 9) (mc := 601024) (ms := 7293034) (k := k + 1) (n := n + 6) (st := []) (w := lwW ad ae G s o L g2) (ws := lwW ad ae G s o L sg) (jCon.post (jCon.frL (c_Mod_combine ae G (lwx G i 1) sg (b, g2) h2) (mkC ad G s ++ [(o, .inl (G.1 2, 1, .inr (.inl (L))))])) (fun r w h => (jFrL.eq h : jEq (some (.int b)) (lwW ad ae G s o L g2) r w))) L0_Mod_combine w1288 w1289 w1290 132 rfl rfl (jd k_Law_law_2 27 rfl) rfl (by decide) (by decide) (by omega) (by omega) rfl rfl ?_
      refine j_istore (pc := 267) (lv' := [(0, .ref (G.2.1 2)), (1, .ref (ad 0)), (2, .ref (ae 0)), (3, .ref o), (4, .int i), (5, .int 1), (6, .int b)]) (jd k_Law_law_2 28 rfl) rfl (Nat.le_of_ble_eq_true rfl) rfl ?_
      refine j_aload_n (pc := 269) 2 (jd k_Law_law_2 29 rfl) rfl ?_
      refine jc_V (pc := 270) (d := 9) (mc := 601024) (ms := 7293034) (k := k + 1) (n := n + 6) (st := []) (w := lwW ad ae G s o L g2) (ws := lwW ad ae G s o L g2) (jCon.post (jCon.frL (c_Mod_thrown ae G g2 1 h3) (mkC ad G s ++ [(o, .inl (G.1 2, 1, .inr (.inl (L))))])) (fun r w h => (jFrL.eq h : jEq (some (.int 1)) (lwW ad ae G s o L g2) r w))) L0_Mod_thrown w1270 w1271 w1272 132 rfl rfl (jd k_Law_law_2 30 rfl) rfl (by decide) (by decide) (by omega) (by omega) rfl rfl ?_
      refine j_iload (pc := 273) 5 (jd k_Law_law_2 31 rfl) rfl ?_
      refine j_icmp_eq (pc := 275) (tgt := 280) (jd k_Law_law_2 32 rfl) rfl (fun h => ?_) (fun h => absurd rfl h)
      refine j_iload (pc := 280) 5 (jd k_Law_law_2 35 rfl) rfl ?_
      refine j_if_ne (pc := 282) (tgt := 297) (jd k_Law_law_2 36 rfl) rfl (fun h => ?_) (fun h => absurd h (by decide))
      refine j_goto (pc := 297) (tgt := 1197) (jd k_Law_law_3 6 rfl) rfl ?_
      refine j_pick (lv' := [(0, .ref (G.2.1 2)), (1, .ref (ad 0)), (2, .ref (ae 0)), (3, .ref o), (4, .int i)]) [0, 1, 2, 3, 4] rfl ?_
      exact j_widen (k := k + 1) (n := n + 6) (by omega) (by omega) (kk s (L) g2 hR)
    · cases List.mem_singleton.mp hm
      refine j_aload_n (pc := 244) 1 (jd k_Law_law_2 12 rfl) rfl ?_
      refine j_aload_n (pc := 245) 0 (jd k_Law_law_2 13 rfl) rfl ?_
      refine j_iload (pc := 246) 4 (jd k_Law_law_2 14 rfl) rfl ?_
      refine j_iconst (pc := 248) (v := 1) (jd k_Law_law_2 15 rfl) (by decide) ?_
      refine j_iadd (pc := 249) (jd k_Law_law_2 16 rfl) ?_
      refine j_xald (pc := 250) (f := G.2.2.2) (L := G.2.2.1) 2 (jd k_Law_law_2 17 rfl) rfl (hin 1 (by decide)) ?_
      refine j_aload_n (pc := 251) 3 (jd k_Law_law_2 18 rfl) rfl ?_
      refine jq_SW (pc := 252) (d := 9) (mc := 601024) (ms := 7293034) (k := k) (n := n) (st := []) (w2 := lwW ad ae G s o L sg) (jConW.frR (d_combine_ISE ad G (lwx G i 1) s o L  h1) (mkR ae G sg)) LW_Law_combine w566 w567 (jd k_Law_law_2 19 rfl) rfl (by decide) (by decide) (by omega) (by omega) rfl rfl rfl ?_
      refine j_istore (pc := 255) (lv' := [(0, .ref (G.2.1 2)), (1, .ref (ad 0)), (2, .ref (ae 0)), (3, .ref o), (4, .int i), (5, .int 2)]) (jd k_Law_law_2 20 rfl) rfl (Nat.le_of_ble_eq_true rfl) rfl ?_
      refine j_aload_n (pc := 257) 2 (jd k_Law_law_2 21 rfl) rfl ?_
      refine j_aload_n (pc := 258) 0 (jd k_Law_law_2 22 rfl) rfl ?_
      refine j_iload (pc := 259) 4 (jd k_Law_law_2 23 rfl) rfl ?_
      refine j_iconst (pc := 261) (v := 1) (jd k_Law_law_2 24 rfl) (by decide) ?_
      refine j_iadd (pc := 262) (jd k_Law_law_2 25 rfl) ?_
      refine j_xald (pc := 263) (f := G.2.2.2) (L := G.2.2.1) 2 (jd k_Law_law_2 26 rfl) rfl (hin 1 (by decide)) ?_
      refine jc_V (pc := 264) (d := 9) (mc := 601024) (ms := 7293034) (k := k + 1) (n := n + 6) (st := []) (w := lwW ad ae G s o L g2) (ws := lwW ad ae G s o L sg) (jCon.post (jCon.frL (c_Mod_combine ae G (lwx G i 1) sg (b, g2) h2) (mkC ad G s ++ [(o, .inl (G.1 2, 1, .inr (.inl (L))))])) (fun r w h => (jFrL.eq h : jEq (some (.int b)) (lwW ad ae G s o L g2) r w))) L0_Mod_combine w1288 w1289 w1290 132 rfl rfl (jd k_Law_law_2 27 rfl) rfl (by decide) (by decide) (by omega) (by omega) rfl rfl ?_
      refine j_istore (pc := 267) (lv' := [(0, .ref (G.2.1 2)), (1, .ref (ad 0)), (2, .ref (ae 0)), (3, .ref o), (4, .int i), (5, .int 2), (6, .int b)]) (jd k_Law_law_2 28 rfl) rfl (Nat.le_of_ble_eq_true rfl) rfl ?_
      refine j_aload_n (pc := 269) 2 (jd k_Law_law_2 29 rfl) rfl ?_
      refine jc_V (pc := 270) (d := 9) (mc := 601024) (ms := 7293034) (k := k + 1) (n := n + 6) (st := []) (w := lwW ad ae G s o L g2) (ws := lwW ad ae G s o L g2) (jCon.post (jCon.frL (c_Mod_thrown ae G g2 2 h3) (mkC ad G s ++ [(o, .inl (G.1 2, 1, .inr (.inl (L))))])) (fun r w h => (jFrL.eq h : jEq (some (.int 2)) (lwW ad ae G s o L g2) r w))) L0_Mod_thrown w1270 w1271 w1272 132 rfl rfl (jd k_Law_law_2 30 rfl) rfl (by decide) (by decide) (by omega) (by omega) rfl rfl ?_
      refine j_iload (pc := 273) 5 (jd k_Law_law_2 31 rfl) rfl ?_
      refine j_icmp_eq (pc := 275) (tgt := 280) (jd k_Law_law_2 32 rfl) rfl (fun h => ?_) (fun h => absurd rfl h)
      refine j_iload (pc := 280) 5 (jd k_Law_law_2 35 rfl) rfl ?_
      refine j_if_ne (pc := 282) (tgt := 297) (jd k_Law_law_2 36 rfl) rfl (fun h => ?_) (fun h => absurd h (by decide))
      refine j_goto (pc := 297) (tgt := 1197) (jd k_Law_law_3 6 rfl) rfl ?_
      refine j_pick (lv' := [(0, .ref (G.2.1 2)), (1, .ref (ad 0)), (2, .ref (ae 0)), (3, .ref o), (4, .int i)]) [0, 1, 2, 3, 4] rfl ?_
      exact j_widen (k := k + 1) (n := n + 6) (by omega) (by omega) (kk s (L) g2 hR)

set_option maxRecDepth 20000 in
theorem case_degree {ad ae : Nat → Nat} {G : jG} {P : jR → va_W → Prop} {i : Int32} {s : jU} {o : Nat} {L : Nat → Int64} {sg : jS} {k n : Nat} (Rel : jU → jS → Prop) (hin : lwIn G i) (H : FaR Rel (f_SR_degree s) (f_Mod_degree sg)) (hk : k + 4 ≤ 601024) (hn : n + 24 ≤ 7293034) (kk : ∀ (s2 : jU) (L2 : Nat → Int64) (g2 : jS), Rel s2 g2 → J G m_Law_law 9 601024 7293034 P 1197 [(0, .ref (G.2.1 2)), (1, .ref (ad 0)), (2, .ref (ae 0)), (3, .ref o), (4, .int i)] [] (lwW ad ae G s2 o L2 g2) (k + 4) (n + 24)) : J G m_Law_law 9 601024 7293034 P 300 [(0, .ref (G.2.1 2)), (1, .ref (ad 0)), (2, .ref (ae 0)), (3, .ref o), (4, .int i)] [] (lwW ad ae G s o L sg) k n := by
  obtain ⟨v, s2, g2, h1, h2, hR⟩ := H
  refine j_aload_n (pc := 300) 1 (jd k_Law_law_3 7 rfl) rfl ?_
  refine jc_V (pc := 301) (d := 9) (mc := 601024) (ms := 7293034) (k := k) (n := n) (st := []) (w := lwW ad ae G s2 o L sg) (ws := lwW ad ae G s o L sg) (jCon.post (jCon.frR (jCon.frR (c_SR_degree ad G  s (v, s2) h1) [(o, .inl (G.1 2, 1, .inr (.inl L)))]) (mkR ae G sg)) (fun r w h => (jFrR.eq (by obtain ⟨w0, e0, h⟩ := h; exact ⟨w0, e0, jFrR.eq h⟩) : jEq (some (.int v)) (lwW ad ae G s2 o L sg) r w))) L0_SR_degree w333 w334 w335 0 rfl rfl (jd k_Law_law_3 8 rfl) rfl (by decide) (by decide) (by omega) (by omega) rfl rfl ?_
  refine j_aload_n (pc := 304) 2 (jd k_Law_law_3 9 rfl) rfl ?_
  refine jc_V (pc := 305) (d := 9) (mc := 601024) (ms := 7293034) (k := k) (n := n) (st := [.int v]) (w := lwW ad ae G s2 o L g2) (ws := lwW ad ae G s2 o L sg) (jCon.post (jCon.frL (c_Mod_degree ae G  sg (v, g2) h2) (mkC ad G s2 ++ [(o, .inl (G.1 2, 1, .inr (.inl (L))))])) (fun r w h => (jFrL.eq h : jEq (some (.int v)) (lwW ad ae G s2 o L g2) r w))) L0_Mod_degree w1308 w1309 w1310 132 rfl rfl (jd k_Law_law_3 10 rfl) rfl (by show (1 : Nat) + 0 ≤ 8; decide) (by decide) (by omega) (by omega) rfl rfl ?_
  refine j_icmp_eq (pc := 308) (tgt := 1197) (jd k_Law_law_3 11 rfl) rfl (fun h => ?_) (fun h => absurd rfl h)
  exact j_widen (k := k) (n := n) (by omega) (by omega) (kk s2 (L) g2 hR)

set_option maxRecDepth 20000 in
theorem case_begin {ad ae : Nat → Nat} {G : jG} {P : jR → va_W → Prop} {i : Int32} {s : jU} {o : Nat} {L : Nat → Int64} {sg : jS} {k n : Nat} (Rel : jU → jS → Prop) (hin : lwIn G i) (H : FaV Rel [("java/lang/IllegalArgumentException", 1)] s (f_SR_begin (lwx G i 1) (lwx G i 2) (lwx G i 3) s) (f_Mod_begin (lwx G i 1) (lwx G i 2) (lwx G i 3) sg)) (hk : k + 4 ≤ 601024) (hn : n + 24 ≤ 7293034) (kk : ∀ (s2 : jU) (L2 : Nat → Int64) (g2 : jS), Rel s2 g2 → J G m_Law_law 9 601024 7293034 P 1197 [(0, .ref (G.2.1 2)), (1, .ref (ad 0)), (2, .ref (ae 0)), (3, .ref o), (4, .int i)] [] (lwW ad ae G s2 o L2 g2) (k + 4) (n + 24)) : J G m_Law_law 9 601024 7293034 P 313 [(0, .ref (G.2.1 2)), (1, .ref (ad 0)), (2, .ref (ae 0)), (3, .ref o), (4, .int i)] [] (lwW ad ae G s o L sg) k n := by
  rcases H with ⟨s2, g2, h1, h2, h3, hR⟩ | ⟨E, c, g2, hm, h1, h2, h3, hR⟩
  · refine j_aload_n (pc := 313) 1 (jd k_Law_law_3 14 rfl) rfl ?_
    refine j_aload_n (pc := 314) 0 (jd k_Law_law_3 15 rfl) rfl ?_
    refine j_iload (pc := 315) 4 (jd k_Law_law_3 16 rfl) rfl ?_
    refine j_iconst (pc := 317) (v := 1) (jd k_Law_law_3 17 rfl) (by decide) ?_
    refine j_iadd (pc := 318) (jd k_Law_law_3 18 rfl) ?_
    refine j_xald (pc := 319) (f := G.2.2.2) (L := G.2.2.1) 2 (jd k_Law_law_3 19 rfl) rfl (hin 1 (by decide)) ?_
    refine j_aload_n (pc := 320) 0 (jd k_Law_law_3 20 rfl) rfl ?_
    refine j_iload (pc := 321) 4 (jd k_Law_law_3 21 rfl) rfl ?_
    refine j_iconst (pc := 323) (v := 2) (jd k_Law_law_3 22 rfl) (by decide) ?_
    refine j_iadd (pc := 324) (jd k_Law_law_3 23 rfl) ?_
    refine j_xald (pc := 325) (f := G.2.2.2) (L := G.2.2.1) 2 (jd k_Law_law_3 24 rfl) rfl (hin 2 (by decide)) ?_
    refine j_aload_n (pc := 326) 0 (jd k_Law_law_3 25 rfl) rfl ?_
    refine j_iload (pc := 327) 4 (jd k_Law_law_3 26 rfl) rfl ?_
    refine j_iconst (pc := 329) (v := 3) (jd k_Law_law_3 27 rfl) (by decide) ?_
    refine j_iadd (pc := 330) (jd k_Law_law_3 28 rfl) ?_
    refine j_xald (pc := 331) (f := G.2.2.2) (L := G.2.2.1) 2 (jd k_Law_law_3 29 rfl) rfl (hin 3 (by decide)) ?_
    refine jq_SW2 (pc := 332) (d := 9) (mc := 601024) (ms := 7293034) (k := k) (n := n) (st := []) (w2 := lwW ad ae G s2 o L sg) (jConW.frR (jConW.frR (d_begin_ok ad G (lwx G i 1) (lwx G i 2) (lwx G i 3) s  s2 h1) [(o, .inl (G.1 2, 1, .inr (.inl L)))]) (mkR ae G sg)) LW_Law_begin w592 w593 (jd k_Law_law_3 30 rfl) rfl (by decide) (by decide) (by omega) (by omega) rfl rfl rfl ?_
    refine j_istore (pc := 335) (lv' := [(0, .ref (G.2.1 2)), (1, .ref (ad 0)), (2, .ref (ae 0)), (3, .ref o), (4, .int i), (5, .int 0)]) (jd k_Law_law_3 31 rfl) rfl (Nat.le_of_ble_eq_true rfl) rfl ?_
    refine j_aload_n (pc := 337) 2 (jd k_Law_law_3 32 rfl) rfl ?_
    refine j_aload_n (pc := 338) 0 (jd k_Law_law_3 33 rfl) rfl ?_
    refine j_iload (pc := 339) 4 (jd k_Law_law_3 34 rfl) rfl ?_
    refine j_iconst (pc := 341) (v := 1) (jd k_Law_law_3 35 rfl) (by decide) ?_
    refine j_iadd (pc := 342) (jd k_Law_law_3 36 rfl) ?_
    refine j_xald (pc := 343) (f := G.2.2.2) (L := G.2.2.1) 2 (jd k_Law_law_3 37 rfl) rfl (hin 1 (by decide)) ?_
    refine j_aload_n (pc := 344) 0 (jd k_Law_law_3 38 rfl) rfl ?_
    refine j_iload (pc := 345) 4 (jd k_Law_law_3 39 rfl) rfl ?_
    refine j_iconst (pc := 347) (v := 2) (jd k_Law_law_4 0 rfl) (by decide) ?_
    refine j_iadd (pc := 348) (jd k_Law_law_4 1 rfl) ?_
    refine j_xald (pc := 349) (f := G.2.2.2) (L := G.2.2.1) 2 (jd k_Law_law_4 2 rfl) rfl (hin 2 (by decide)) ?_
    refine j_aload_n (pc := 350) 0 (jd k_Law_law_4 3 rfl) rfl ?_
    refine j_iload (pc := 351) 4 (jd k_Law_law_4 4 rfl) rfl ?_
    refine j_iconst (pc := 353) (v := 3) (jd k_Law_law_4 5 rfl) (by decide) ?_
    refine j_iadd (pc := 354) (jd k_Law_law_4 6 rfl) ?_
    refine j_xald (pc := 355) (f := G.2.2.2) (L := G.2.2.1) 2 (jd k_Law_law_4 7 rfl) rfl (hin 3 (by decide)) ?_
    refine jc_V (pc := 356) (d := 9) (mc := 601024) (ms := 7293034) (k := k + 1) (n := n + 6) (st := []) (w := lwW ad ae G s2 o L g2) (ws := lwW ad ae G s2 o L sg) (jCon.post (jCon.frL (c_Mod_begin ae G (lwx G i 1) (lwx G i 2) (lwx G i 3) sg g2 h2) (mkC ad G s2 ++ [(o, .inl (G.1 2, 1, .inr (.inl (L))))])) (fun r w h => (jFrL.eq h : jEq none (lwW ad ae G s2 o L g2) r w))) L0_Mod_begin w1312 w1313 w1314 132 rfl rfl (jd k_Law_law_4 8 rfl) rfl (by decide) (by decide) (by omega) (by omega) rfl rfl ?_
    refine j_aload_n (pc := 359) 2 (jd k_Law_law_4 9 rfl) rfl ?_
    refine jc_V (pc := 360) (d := 9) (mc := 601024) (ms := 7293034) (k := k + 1) (n := n + 6) (st := []) (w := lwW ad ae G s2 o L g2) (ws := lwW ad ae G s2 o L g2) (jCon.post (jCon.frL (c_Mod_thrown ae G g2 0 h3) (mkC ad G s2 ++ [(o, .inl (G.1 2, 1, .inr (.inl (L))))])) (fun r w h => (jFrL.eq h : jEq (some (.int 0)) (lwW ad ae G s2 o L g2) r w))) L0_Mod_thrown w1270 w1271 w1272 132 rfl rfl (jd k_Law_law_4 10 rfl) rfl (by decide) (by decide) (by omega) (by omega) rfl rfl ?_
    refine j_iload (pc := 363) 5 (jd k_Law_law_4 11 rfl) rfl ?_
    refine j_icmp_eq (pc := 365) (tgt := 370) (jd k_Law_law_4 12 rfl) rfl (fun h => ?_) (fun h => absurd rfl h)
    refine j_goto (pc := 370) (tgt := 1197) (jd k_Law_law_4 15 rfl) rfl ?_
    refine j_pick (lv' := [(0, .ref (G.2.1 2)), (1, .ref (ad 0)), (2, .ref (ae 0)), (3, .ref o), (4, .int i)]) [0, 1, 2, 3, 4] rfl ?_
    exact j_widen (k := k + 1) (n := n + 6) (by omega) (by omega) (kk s2 (L) g2 hR)
  · cases List.mem_singleton.mp hm
    refine j_aload_n (pc := 313) 1 (jd k_Law_law_3 14 rfl) rfl ?_
    refine j_aload_n (pc := 314) 0 (jd k_Law_law_3 15 rfl) rfl ?_
    refine j_iload (pc := 315) 4 (jd k_Law_law_3 16 rfl) rfl ?_
    refine j_iconst (pc := 317) (v := 1) (jd k_Law_law_3 17 rfl) (by decide) ?_
    refine j_iadd (pc := 318) (jd k_Law_law_3 18 rfl) ?_
    refine j_xald (pc := 319) (f := G.2.2.2) (L := G.2.2.1) 2 (jd k_Law_law_3 19 rfl) rfl (hin 1 (by decide)) ?_
    refine j_aload_n (pc := 320) 0 (jd k_Law_law_3 20 rfl) rfl ?_
    refine j_iload (pc := 321) 4 (jd k_Law_law_3 21 rfl) rfl ?_
    refine j_iconst (pc := 323) (v := 2) (jd k_Law_law_3 22 rfl) (by decide) ?_
    refine j_iadd (pc := 324) (jd k_Law_law_3 23 rfl) ?_
    refine j_xald (pc := 325) (f := G.2.2.2) (L := G.2.2.1) 2 (jd k_Law_law_3 24 rfl) rfl (hin 2 (by decide)) ?_
    refine j_aload_n (pc := 326) 0 (jd k_Law_law_3 25 rfl) rfl ?_
    refine j_iload (pc := 327) 4 (jd k_Law_law_3 26 rfl) rfl ?_
    refine j_iconst (pc := 329) (v := 3) (jd k_Law_law_3 27 rfl) (by decide) ?_
    refine j_iadd (pc := 330) (jd k_Law_law_3 28 rfl) ?_
    refine j_xald (pc := 331) (f := G.2.2.2) (L := G.2.2.1) 2 (jd k_Law_law_3 29 rfl) rfl (hin 3 (by decide)) ?_
    refine jq_SW2 (pc := 332) (d := 9) (mc := 601024) (ms := 7293034) (k := k) (n := n) (st := []) (w2 := lwW ad ae G s o L sg) (jConW.frR (jConW.frR (d_begin_IAE ad G (lwx G i 1) (lwx G i 2) (lwx G i 3) s  h1) [(o, .inl (G.1 2, 1, .inr (.inl L)))]) (mkR ae G sg)) LW_Law_begin w592 w593 (jd k_Law_law_3 30 rfl) rfl (by decide) (by decide) (by omega) (by omega) rfl rfl rfl ?_
    refine j_istore (pc := 335) (lv' := [(0, .ref (G.2.1 2)), (1, .ref (ad 0)), (2, .ref (ae 0)), (3, .ref o), (4, .int i), (5, .int 1)]) (jd k_Law_law_3 31 rfl) rfl (Nat.le_of_ble_eq_true rfl) rfl ?_
    refine j_aload_n (pc := 337) 2 (jd k_Law_law_3 32 rfl) rfl ?_
    refine j_aload_n (pc := 338) 0 (jd k_Law_law_3 33 rfl) rfl ?_
    refine j_iload (pc := 339) 4 (jd k_Law_law_3 34 rfl) rfl ?_
    refine j_iconst (pc := 341) (v := 1) (jd k_Law_law_3 35 rfl) (by decide) ?_
    refine j_iadd (pc := 342) (jd k_Law_law_3 36 rfl) ?_
    refine j_xald (pc := 343) (f := G.2.2.2) (L := G.2.2.1) 2 (jd k_Law_law_3 37 rfl) rfl (hin 1 (by decide)) ?_
    refine j_aload_n (pc := 344) 0 (jd k_Law_law_3 38 rfl) rfl ?_
    refine j_iload (pc := 345) 4 (jd k_Law_law_3 39 rfl) rfl ?_
    refine j_iconst (pc := 347) (v := 2) (jd k_Law_law_4 0 rfl) (by decide) ?_
    refine j_iadd (pc := 348) (jd k_Law_law_4 1 rfl) ?_
    refine j_xald (pc := 349) (f := G.2.2.2) (L := G.2.2.1) 2 (jd k_Law_law_4 2 rfl) rfl (hin 2 (by decide)) ?_
    refine j_aload_n (pc := 350) 0 (jd k_Law_law_4 3 rfl) rfl ?_
    refine j_iload (pc := 351) 4 (jd k_Law_law_4 4 rfl) rfl ?_
    refine j_iconst (pc := 353) (v := 3) (jd k_Law_law_4 5 rfl) (by decide) ?_
    refine j_iadd (pc := 354) (jd k_Law_law_4 6 rfl) ?_
    refine j_xald (pc := 355) (f := G.2.2.2) (L := G.2.2.1) 2 (jd k_Law_law_4 7 rfl) rfl (hin 3 (by decide)) ?_
    refine jc_V (pc := 356) (d := 9) (mc := 601024) (ms := 7293034) (k := k + 1) (n := n + 6) (st := []) (w := lwW ad ae G s o L g2) (ws := lwW ad ae G s o L sg) (jCon.post (jCon.frL (c_Mod_begin ae G (lwx G i 1) (lwx G i 2) (lwx G i 3) sg g2 h2) (mkC ad G s ++ [(o, .inl (G.1 2, 1, .inr (.inl (L))))])) (fun r w h => (jFrL.eq h : jEq none (lwW ad ae G s o L g2) r w))) L0_Mod_begin w1312 w1313 w1314 132 rfl rfl (jd k_Law_law_4 8 rfl) rfl (by decide) (by decide) (by omega) (by omega) rfl rfl ?_
    refine j_aload_n (pc := 359) 2 (jd k_Law_law_4 9 rfl) rfl ?_
    refine jc_V (pc := 360) (d := 9) (mc := 601024) (ms := 7293034) (k := k + 1) (n := n + 6) (st := []) (w := lwW ad ae G s o L g2) (ws := lwW ad ae G s o L g2) (jCon.post (jCon.frL (c_Mod_thrown ae G g2 1 h3) (mkC ad G s ++ [(o, .inl (G.1 2, 1, .inr (.inl (L))))])) (fun r w h => (jFrL.eq h : jEq (some (.int 1)) (lwW ad ae G s o L g2) r w))) L0_Mod_thrown w1270 w1271 w1272 132 rfl rfl (jd k_Law_law_4 10 rfl) rfl (by decide) (by decide) (by omega) (by omega) rfl rfl ?_
    refine j_iload (pc := 363) 5 (jd k_Law_law_4 11 rfl) rfl ?_
    refine j_icmp_eq (pc := 365) (tgt := 370) (jd k_Law_law_4 12 rfl) rfl (fun h => ?_) (fun h => absurd rfl h)
    refine j_goto (pc := 370) (tgt := 1197) (jd k_Law_law_4 15 rfl) rfl ?_
    refine j_pick (lv' := [(0, .ref (G.2.1 2)), (1, .ref (ad 0)), (2, .ref (ae 0)), (3, .ref o), (4, .int i)]) [0, 1, 2, 3, 4] rfl ?_
    exact j_widen (k := k + 1) (n := n + 6) (by omega) (by omega) (kk s (L) g2 hR)

set_option maxRecDepth 20000 in
theorem case_give {ad ae : Nat → Nat} {G : jG} {P : jR → va_W → Prop} {i : Int32} {s : jU} {o : Nat} {L : Nat → Int64} {sg : jS} {k n : Nat} (Rel : jU → jS → Prop) (hin : lwIn G i) (H : FaV Rel [("java/lang/IllegalStateException", 1), ("java/lang/IllegalArgumentException", 2)] s (f_SR_give (lwx G i 1) (lwx G i 2) (lwx G i 3) (lwx G i 4) s) (f_Mod_give (lwx G i 1) (lwx G i 2) (lwx G i 3) (lwx G i 4) sg)) (hk : k + 4 ≤ 601024) (hn : n + 24 ≤ 7293034) (kk : ∀ (s2 : jU) (L2 : Nat → Int64) (g2 : jS), Rel s2 g2 → J G m_Law_law 9 601024 7293034 P 1197 [(0, .ref (G.2.1 2)), (1, .ref (ad 0)), (2, .ref (ae 0)), (3, .ref o), (4, .int i)] [] (lwW ad ae G s2 o L2 g2) (k + 4) (n + 24)) : J G m_Law_law 9 601024 7293034 P 373 [(0, .ref (G.2.1 2)), (1, .ref (ad 0)), (2, .ref (ae 0)), (3, .ref o), (4, .int i)] [] (lwW ad ae G s o L sg) k n := by
  rcases H with ⟨s2, g2, h1, h2, h3, hR⟩ | ⟨E, c, g2, hm, h1, h2, h3, hR⟩
  · refine j_aload_n (pc := 373) 1 (jd k_Law_law_4 16 rfl) rfl ?_
    refine j_aload_n (pc := 374) 0 (jd k_Law_law_4 17 rfl) rfl ?_
    refine j_iload (pc := 375) 4 (jd k_Law_law_4 18 rfl) rfl ?_
    refine j_iconst (pc := 377) (v := 1) (jd k_Law_law_4 19 rfl) (by decide) ?_
    refine j_iadd (pc := 378) (jd k_Law_law_4 20 rfl) ?_
    refine j_xald (pc := 379) (f := G.2.2.2) (L := G.2.2.1) 2 (jd k_Law_law_4 21 rfl) rfl (hin 1 (by decide)) ?_
    refine j_aload_n (pc := 380) 0 (jd k_Law_law_4 22 rfl) rfl ?_
    refine j_iload (pc := 381) 4 (jd k_Law_law_4 23 rfl) rfl ?_
    refine j_iconst (pc := 383) (v := 2) (jd k_Law_law_4 24 rfl) (by decide) ?_
    refine j_iadd (pc := 384) (jd k_Law_law_4 25 rfl) ?_
    refine j_xald (pc := 385) (f := G.2.2.2) (L := G.2.2.1) 2 (jd k_Law_law_4 26 rfl) rfl (hin 2 (by decide)) ?_
    refine j_aload_n (pc := 386) 0 (jd k_Law_law_4 27 rfl) rfl ?_
    refine j_iload (pc := 387) 4 (jd k_Law_law_4 28 rfl) rfl ?_
    refine j_iconst (pc := 389) (v := 3) (jd k_Law_law_4 29 rfl) (by decide) ?_
    refine j_iadd (pc := 390) (jd k_Law_law_4 30 rfl) ?_
    refine j_xald (pc := 391) (f := G.2.2.2) (L := G.2.2.1) 2 (jd k_Law_law_4 31 rfl) rfl (hin 3 (by decide)) ?_
    refine j_aload_n (pc := 392) 0 (jd k_Law_law_4 32 rfl) rfl ?_
    refine j_iload (pc := 393) 4 (jd k_Law_law_4 33 rfl) rfl ?_
    refine j_iconst (pc := 395) (v := 4) (jd k_Law_law_4 34 rfl) (by decide) ?_
    refine j_iadd (pc := 396) (jd k_Law_law_4 35 rfl) ?_
    refine j_xald (pc := 397) (f := G.2.2.2) (L := G.2.2.1) 2 (jd k_Law_law_4 36 rfl) rfl (hin 4 (by decide)) ?_
    refine jq_SW2 (pc := 398) (d := 9) (mc := 601024) (ms := 7293034) (k := k) (n := n) (st := []) (w2 := lwW ad ae G s2 o L sg) (jConW.frR (jConW.frR (d_give_ok ad G (lwx G i 1) (lwx G i 2) (lwx G i 3) (lwx G i 4) s  s2 h1) [(o, .inl (G.1 2, 1, .inr (.inl L)))]) (mkR ae G sg)) LW_Law_give w626 w627 (jd k_Law_law_4 37 rfl) rfl (by decide) (by decide) (by omega) (by omega) rfl rfl rfl ?_
    refine j_istore (pc := 401) (lv' := [(0, .ref (G.2.1 2)), (1, .ref (ad 0)), (2, .ref (ae 0)), (3, .ref o), (4, .int i), (5, .int 0)]) (jd k_Law_law_4 38 rfl) rfl (Nat.le_of_ble_eq_true rfl) rfl ?_
    refine j_aload_n (pc := 403) 2 (jd k_Law_law_4 39 rfl) rfl ?_
    refine j_aload_n (pc := 404) 0 (jd k_Law_law_5 0 rfl) rfl ?_
    refine j_iload (pc := 405) 4 (jd k_Law_law_5 1 rfl) rfl ?_
    refine j_iconst (pc := 407) (v := 1) (jd k_Law_law_5 2 rfl) (by decide) ?_
    refine j_iadd (pc := 408) (jd k_Law_law_5 3 rfl) ?_
    refine j_xald (pc := 409) (f := G.2.2.2) (L := G.2.2.1) 2 (jd k_Law_law_5 4 rfl) rfl (hin 1 (by decide)) ?_
    refine j_aload_n (pc := 410) 0 (jd k_Law_law_5 5 rfl) rfl ?_
    refine j_iload (pc := 411) 4 (jd k_Law_law_5 6 rfl) rfl ?_
    refine j_iconst (pc := 413) (v := 2) (jd k_Law_law_5 7 rfl) (by decide) ?_
    refine j_iadd (pc := 414) (jd k_Law_law_5 8 rfl) ?_
    refine j_xald (pc := 415) (f := G.2.2.2) (L := G.2.2.1) 2 (jd k_Law_law_5 9 rfl) rfl (hin 2 (by decide)) ?_
    refine j_aload_n (pc := 416) 0 (jd k_Law_law_5 10 rfl) rfl ?_
    refine j_iload (pc := 417) 4 (jd k_Law_law_5 11 rfl) rfl ?_
    refine j_iconst (pc := 419) (v := 3) (jd k_Law_law_5 12 rfl) (by decide) ?_
    refine j_iadd (pc := 420) (jd k_Law_law_5 13 rfl) ?_
    refine j_xald (pc := 421) (f := G.2.2.2) (L := G.2.2.1) 2 (jd k_Law_law_5 14 rfl) rfl (hin 3 (by decide)) ?_
    refine j_aload_n (pc := 422) 0 (jd k_Law_law_5 15 rfl) rfl ?_
    refine j_iload (pc := 423) 4 (jd k_Law_law_5 16 rfl) rfl ?_
    refine j_iconst (pc := 425) (v := 4) (jd k_Law_law_5 17 rfl) (by decide) ?_
    refine j_iadd (pc := 426) (jd k_Law_law_5 18 rfl) ?_
    refine j_xald (pc := 427) (f := G.2.2.2) (L := G.2.2.1) 2 (jd k_Law_law_5 19 rfl) rfl (hin 4 (by decide)) ?_
    refine jc_V (pc := 428) (d := 9) (mc := 601024) (ms := 7293034) (k := k + 4) (n := n + 24) (st := []) (w := lwW ad ae G s2 o L g2) (ws := lwW ad ae G s2 o L sg) (jCon.post (jCon.frL (c_Mod_give ae G (lwx G i 1) (lwx G i 2) (lwx G i 3) (lwx G i 4) sg g2 h2) (mkC ad G s2 ++ [(o, .inl (G.1 2, 1, .inr (.inl (L))))])) (fun r w h => (jFrL.eq h : jEq none (lwW ad ae G s2 o L g2) r w))) L0_Mod_give w1320 w1321 w1322 132 rfl rfl (jd k_Law_law_5 20 rfl) rfl (by decide) (by decide) (by omega) (by omega) rfl rfl ?_
    refine j_aload_n (pc := 431) 2 (jd k_Law_law_5 21 rfl) rfl ?_
    refine jc_V (pc := 432) (d := 9) (mc := 601024) (ms := 7293034) (k := k + 4) (n := n + 24) (st := []) (w := lwW ad ae G s2 o L g2) (ws := lwW ad ae G s2 o L g2) (jCon.post (jCon.frL (c_Mod_thrown ae G g2 0 h3) (mkC ad G s2 ++ [(o, .inl (G.1 2, 1, .inr (.inl (L))))])) (fun r w h => (jFrL.eq h : jEq (some (.int 0)) (lwW ad ae G s2 o L g2) r w))) L0_Mod_thrown w1270 w1271 w1272 132 rfl rfl (jd k_Law_law_5 22 rfl) rfl (by decide) (by decide) (by omega) (by omega) rfl rfl ?_
    refine j_iload (pc := 435) 5 (jd k_Law_law_5 23 rfl) rfl ?_
    refine j_icmp_eq (pc := 437) (tgt := 442) (jd k_Law_law_5 24 rfl) rfl (fun h => ?_) (fun h => absurd rfl h)
    refine j_goto (pc := 442) (tgt := 1197) (jd k_Law_law_5 27 rfl) rfl ?_
    refine j_pick (lv' := [(0, .ref (G.2.1 2)), (1, .ref (ad 0)), (2, .ref (ae 0)), (3, .ref o), (4, .int i)]) [0, 1, 2, 3, 4] rfl ?_
    exact j_widen (k := k + 4) (n := n + 24) (by omega) (by omega) (kk s2 (L) g2 hR)
  · rcases List.mem_cons.mp hm with hm | hm
    · cases hm
      refine j_aload_n (pc := 373) 1 (jd k_Law_law_4 16 rfl) rfl ?_
      refine j_aload_n (pc := 374) 0 (jd k_Law_law_4 17 rfl) rfl ?_
      refine j_iload (pc := 375) 4 (jd k_Law_law_4 18 rfl) rfl ?_
      refine j_iconst (pc := 377) (v := 1) (jd k_Law_law_4 19 rfl) (by decide) ?_
      refine j_iadd (pc := 378) (jd k_Law_law_4 20 rfl) ?_
      refine j_xald (pc := 379) (f := G.2.2.2) (L := G.2.2.1) 2 (jd k_Law_law_4 21 rfl) rfl (hin 1 (by decide)) ?_
      refine j_aload_n (pc := 380) 0 (jd k_Law_law_4 22 rfl) rfl ?_
      refine j_iload (pc := 381) 4 (jd k_Law_law_4 23 rfl) rfl ?_
      refine j_iconst (pc := 383) (v := 2) (jd k_Law_law_4 24 rfl) (by decide) ?_
      refine j_iadd (pc := 384) (jd k_Law_law_4 25 rfl) ?_
      refine j_xald (pc := 385) (f := G.2.2.2) (L := G.2.2.1) 2 (jd k_Law_law_4 26 rfl) rfl (hin 2 (by decide)) ?_
      refine j_aload_n (pc := 386) 0 (jd k_Law_law_4 27 rfl) rfl ?_
      refine j_iload (pc := 387) 4 (jd k_Law_law_4 28 rfl) rfl ?_
      refine j_iconst (pc := 389) (v := 3) (jd k_Law_law_4 29 rfl) (by decide) ?_
      refine j_iadd (pc := 390) (jd k_Law_law_4 30 rfl) ?_
      refine j_xald (pc := 391) (f := G.2.2.2) (L := G.2.2.1) 2 (jd k_Law_law_4 31 rfl) rfl (hin 3 (by decide)) ?_
      refine j_aload_n (pc := 392) 0 (jd k_Law_law_4 32 rfl) rfl ?_
      refine j_iload (pc := 393) 4 (jd k_Law_law_4 33 rfl) rfl ?_
      refine j_iconst (pc := 395) (v := 4) (jd k_Law_law_4 34 rfl) (by decide) ?_
      refine j_iadd (pc := 396) (jd k_Law_law_4 35 rfl) ?_
      refine j_xald (pc := 397) (f := G.2.2.2) (L := G.2.2.1) 2 (jd k_Law_law_4 36 rfl) rfl (hin 4 (by decide)) ?_
      refine jq_SW2 (pc := 398) (d := 9) (mc := 601024) (ms := 7293034) (k := k) (n := n) (st := []) (w2 := lwW ad ae G s o L sg) (jConW.frR (jConW.frR (d_give_ISE ad G (lwx G i 1) (lwx G i 2) (lwx G i 3) (lwx G i 4) s  h1) [(o, .inl (G.1 2, 1, .inr (.inl L)))]) (mkR ae G sg)) LW_Law_give w626 w627 (jd k_Law_law_4 37 rfl) rfl (by decide) (by decide) (by omega) (by omega) rfl rfl rfl ?_
      refine j_istore (pc := 401) (lv' := [(0, .ref (G.2.1 2)), (1, .ref (ad 0)), (2, .ref (ae 0)), (3, .ref o), (4, .int i), (5, .int 1)]) (jd k_Law_law_4 38 rfl) rfl (Nat.le_of_ble_eq_true rfl) rfl ?_
      refine j_aload_n (pc := 403) 2 (jd k_Law_law_4 39 rfl) rfl ?_
      refine j_aload_n (pc := 404) 0 (jd k_Law_law_5 0 rfl) rfl ?_
      refine j_iload (pc := 405) 4 (jd k_Law_law_5 1 rfl) rfl ?_
      refine j_iconst (pc := 407) (v := 1) (jd k_Law_law_5 2 rfl) (by decide) ?_
      refine j_iadd (pc := 408) (jd k_Law_law_5 3 rfl) ?_
      refine j_xald (pc := 409) (f := G.2.2.2) (L := G.2.2.1) 2 (jd k_Law_law_5 4 rfl) rfl (hin 1 (by decide)) ?_
      refine j_aload_n (pc := 410) 0 (jd k_Law_law_5 5 rfl) rfl ?_
      refine j_iload (pc := 411) 4 (jd k_Law_law_5 6 rfl) rfl ?_
      refine j_iconst (pc := 413) (v := 2) (jd k_Law_law_5 7 rfl) (by decide) ?_
      refine j_iadd (pc := 414) (jd k_Law_law_5 8 rfl) ?_
      refine j_xald (pc := 415) (f := G.2.2.2) (L := G.2.2.1) 2 (jd k_Law_law_5 9 rfl) rfl (hin 2 (by decide)) ?_
      refine j_aload_n (pc := 416) 0 (jd k_Law_law_5 10 rfl) rfl ?_
      refine j_iload (pc := 417) 4 (jd k_Law_law_5 11 rfl) rfl ?_
      refine j_iconst (pc := 419) (v := 3) (jd k_Law_law_5 12 rfl) (by decide) ?_
      refine j_iadd (pc := 420) (jd k_Law_law_5 13 rfl) ?_
      refine j_xald (pc := 421) (f := G.2.2.2) (L := G.2.2.1) 2 (jd k_Law_law_5 14 rfl) rfl (hin 3 (by decide)) ?_
      refine j_aload_n (pc := 422) 0 (jd k_Law_law_5 15 rfl) rfl ?_
      refine j_iload (pc := 423) 4 (jd k_Law_law_5 16 rfl) rfl ?_
      refine j_iconst (pc := 425) (v := 4) (jd k_Law_law_5 17 rfl) (by decide) ?_
      refine j_iadd (pc := 426) (jd k_Law_law_5 18 rfl) ?_
      refine j_xald (pc := 427) (f := G.2.2.2) (L := G.2.2.1) 2 (jd k_Law_law_5 19 rfl) rfl (hin 4 (by decide)) ?_
      refine jc_V (pc := 428) (d := 9) (mc := 601024) (ms := 7293034) (k := k + 4) (n := n + 24) (st := []) (w := lwW ad ae G s o L g2) (ws := lwW ad ae G s o L sg) (jCon.post (jCon.frL (c_Mod_give ae G (lwx G i 1) (lwx G i 2) (lwx G i 3) (lwx G i 4) sg g2 h2) (mkC ad G s ++ [(o, .inl (G.1 2, 1, .inr (.inl (L))))])) (fun r w h => (jFrL.eq h : jEq none (lwW ad ae G s o L g2) r w))) L0_Mod_give w1320 w1321 w1322 132 rfl rfl (jd k_Law_law_5 20 rfl) rfl (by decide) (by decide) (by omega) (by omega) rfl rfl ?_
      refine j_aload_n (pc := 431) 2 (jd k_Law_law_5 21 rfl) rfl ?_
      refine jc_V (pc := 432) (d := 9) (mc := 601024) (ms := 7293034) (k := k + 4) (n := n + 24) (st := []) (w := lwW ad ae G s o L g2) (ws := lwW ad ae G s o L g2) (jCon.post (jCon.frL (c_Mod_thrown ae G g2 1 h3) (mkC ad G s ++ [(o, .inl (G.1 2, 1, .inr (.inl (L))))])) (fun r w h => (jFrL.eq h : jEq (some (.int 1)) (lwW ad ae G s o L g2) r w))) L0_Mod_thrown w1270 w1271 w1272 132 rfl rfl (jd k_Law_law_5 22 rfl) rfl (by decide) (by decide) (by omega) (by omega) rfl rfl ?_
      refine j_iload (pc := 435) 5 (jd k_Law_law_5 23 rfl) rfl ?_
      refine j_icmp_eq (pc := 437) (tgt := 442) (jd k_Law_law_5 24 rfl) rfl (fun h => ?_) (fun h => absurd rfl h)
      refine j_goto (pc := 442) (tgt := 1197) (jd k_Law_law_5 27 rfl) rfl ?_
      refine j_pick (lv' := [(0, .ref (G.2.1 2)), (1, .ref (ad 0)), (2, .ref (ae 0)), (3, .ref o), (4, .int i)]) [0, 1, 2, 3, 4] rfl ?_
      exact j_widen (k := k + 4) (n := n + 24) (by omega) (by omega) (kk s (L) g2 hR)
    · cases List.mem_singleton.mp hm
      refine j_aload_n (pc := 373) 1 (jd k_Law_law_4 16 rfl) rfl ?_
      refine j_aload_n (pc := 374) 0 (jd k_Law_law_4 17 rfl) rfl ?_
      refine j_iload (pc := 375) 4 (jd k_Law_law_4 18 rfl) rfl ?_
      refine j_iconst (pc := 377) (v := 1) (jd k_Law_law_4 19 rfl) (by decide) ?_
      refine j_iadd (pc := 378) (jd k_Law_law_4 20 rfl) ?_
      refine j_xald (pc := 379) (f := G.2.2.2) (L := G.2.2.1) 2 (jd k_Law_law_4 21 rfl) rfl (hin 1 (by decide)) ?_
      refine j_aload_n (pc := 380) 0 (jd k_Law_law_4 22 rfl) rfl ?_
      refine j_iload (pc := 381) 4 (jd k_Law_law_4 23 rfl) rfl ?_
      refine j_iconst (pc := 383) (v := 2) (jd k_Law_law_4 24 rfl) (by decide) ?_
      refine j_iadd (pc := 384) (jd k_Law_law_4 25 rfl) ?_
      refine j_xald (pc := 385) (f := G.2.2.2) (L := G.2.2.1) 2 (jd k_Law_law_4 26 rfl) rfl (hin 2 (by decide)) ?_
      refine j_aload_n (pc := 386) 0 (jd k_Law_law_4 27 rfl) rfl ?_
      refine j_iload (pc := 387) 4 (jd k_Law_law_4 28 rfl) rfl ?_
      refine j_iconst (pc := 389) (v := 3) (jd k_Law_law_4 29 rfl) (by decide) ?_
      refine j_iadd (pc := 390) (jd k_Law_law_4 30 rfl) ?_
      refine j_xald (pc := 391) (f := G.2.2.2) (L := G.2.2.1) 2 (jd k_Law_law_4 31 rfl) rfl (hin 3 (by decide)) ?_
      refine j_aload_n (pc := 392) 0 (jd k_Law_law_4 32 rfl) rfl ?_
      refine j_iload (pc := 393) 4 (jd k_Law_law_4 33 rfl) rfl ?_
      refine j_iconst (pc := 395) (v := 4) (jd k_Law_law_4 34 rfl) (by decide) ?_
      refine j_iadd (pc := 396) (jd k_Law_law_4 35 rfl) ?_
      refine j_xald (pc := 397) (f := G.2.2.2) (L := G.2.2.1) 2 (jd k_Law_law_4 36 rfl) rfl (hin 4 (by decide)) ?_
      refine jq_SW2 (pc := 398) (d := 9) (mc := 601024) (ms := 7293034) (k := k) (n := n) (st := []) (w2 := lwW ad ae G s o L sg) (jConW.frR (jConW.frR (d_give_IAE ad G (lwx G i 1) (lwx G i 2) (lwx G i 3) (lwx G i 4) s  h1) [(o, .inl (G.1 2, 1, .inr (.inl L)))]) (mkR ae G sg)) LW_Law_give w626 w627 (jd k_Law_law_4 37 rfl) rfl (by decide) (by decide) (by omega) (by omega) rfl rfl rfl ?_
      refine j_istore (pc := 401) (lv' := [(0, .ref (G.2.1 2)), (1, .ref (ad 0)), (2, .ref (ae 0)), (3, .ref o), (4, .int i), (5, .int 2)]) (jd k_Law_law_4 38 rfl) rfl (Nat.le_of_ble_eq_true rfl) rfl ?_
      refine j_aload_n (pc := 403) 2 (jd k_Law_law_4 39 rfl) rfl ?_
      refine j_aload_n (pc := 404) 0 (jd k_Law_law_5 0 rfl) rfl ?_
      refine j_iload (pc := 405) 4 (jd k_Law_law_5 1 rfl) rfl ?_
      refine j_iconst (pc := 407) (v := 1) (jd k_Law_law_5 2 rfl) (by decide) ?_
      refine j_iadd (pc := 408) (jd k_Law_law_5 3 rfl) ?_
      refine j_xald (pc := 409) (f := G.2.2.2) (L := G.2.2.1) 2 (jd k_Law_law_5 4 rfl) rfl (hin 1 (by decide)) ?_
      refine j_aload_n (pc := 410) 0 (jd k_Law_law_5 5 rfl) rfl ?_
      refine j_iload (pc := 411) 4 (jd k_Law_law_5 6 rfl) rfl ?_
      refine j_iconst (pc := 413) (v := 2) (jd k_Law_law_5 7 rfl) (by decide) ?_
      refine j_iadd (pc := 414) (jd k_Law_law_5 8 rfl) ?_
      refine j_xald (pc := 415) (f := G.2.2.2) (L := G.2.2.1) 2 (jd k_Law_law_5 9 rfl) rfl (hin 2 (by decide)) ?_
      refine j_aload_n (pc := 416) 0 (jd k_Law_law_5 10 rfl) rfl ?_
      refine j_iload (pc := 417) 4 (jd k_Law_law_5 11 rfl) rfl ?_
      refine j_iconst (pc := 419) (v := 3) (jd k_Law_law_5 12 rfl) (by decide) ?_
      refine j_iadd (pc := 420) (jd k_Law_law_5 13 rfl) ?_
      refine j_xald (pc := 421) (f := G.2.2.2) (L := G.2.2.1) 2 (jd k_Law_law_5 14 rfl) rfl (hin 3 (by decide)) ?_
      refine j_aload_n (pc := 422) 0 (jd k_Law_law_5 15 rfl) rfl ?_
      refine j_iload (pc := 423) 4 (jd k_Law_law_5 16 rfl) rfl ?_
      refine j_iconst (pc := 425) (v := 4) (jd k_Law_law_5 17 rfl) (by decide) ?_
      refine j_iadd (pc := 426) (jd k_Law_law_5 18 rfl) ?_
      refine j_xald (pc := 427) (f := G.2.2.2) (L := G.2.2.1) 2 (jd k_Law_law_5 19 rfl) rfl (hin 4 (by decide)) ?_
      refine jc_V (pc := 428) (d := 9) (mc := 601024) (ms := 7293034) (k := k + 4) (n := n + 24) (st := []) (w := lwW ad ae G s o L g2) (ws := lwW ad ae G s o L sg) (jCon.post (jCon.frL (c_Mod_give ae G (lwx G i 1) (lwx G i 2) (lwx G i 3) (lwx G i 4) sg g2 h2) (mkC ad G s ++ [(o, .inl (G.1 2, 1, .inr (.inl (L))))])) (fun r w h => (jFrL.eq h : jEq none (lwW ad ae G s o L g2) r w))) L0_Mod_give w1320 w1321 w1322 132 rfl rfl (jd k_Law_law_5 20 rfl) rfl (by decide) (by decide) (by omega) (by omega) rfl rfl ?_
      refine j_aload_n (pc := 431) 2 (jd k_Law_law_5 21 rfl) rfl ?_
      refine jc_V (pc := 432) (d := 9) (mc := 601024) (ms := 7293034) (k := k + 4) (n := n + 24) (st := []) (w := lwW ad ae G s o L g2) (ws := lwW ad ae G s o L g2) (jCon.post (jCon.frL (c_Mod_thrown ae G g2 2 h3) (mkC ad G s ++ [(o, .inl (G.1 2, 1, .inr (.inl (L))))])) (fun r w h => (jFrL.eq h : jEq (some (.int 2)) (lwW ad ae G s o L g2) r w))) L0_Mod_thrown w1270 w1271 w1272 132 rfl rfl (jd k_Law_law_5 22 rfl) rfl (by decide) (by decide) (by omega) (by omega) rfl rfl ?_
      refine j_iload (pc := 435) 5 (jd k_Law_law_5 23 rfl) rfl ?_
      refine j_icmp_eq (pc := 437) (tgt := 442) (jd k_Law_law_5 24 rfl) rfl (fun h => ?_) (fun h => absurd rfl h)
      refine j_goto (pc := 442) (tgt := 1197) (jd k_Law_law_5 27 rfl) rfl ?_
      refine j_pick (lv' := [(0, .ref (G.2.1 2)), (1, .ref (ad 0)), (2, .ref (ae 0)), (3, .ref o), (4, .int i)]) [0, 1, 2, 3, 4] rfl ?_
      exact j_widen (k := k + 4) (n := n + 24) (by omega) (by omega) (kk s (L) g2 hR)

set_option maxRecDepth 20000 in
theorem case_fault {ad ae : Nat → Nat} {G : jG} {P : jR → va_W → Prop} {i : Int32} {s : jU} {o : Nat} {L : Nat → Int64} {sg : jS} {k n : Nat} (Rel : jU → jS → Prop) (hin : lwIn G i) (H : FaV Rel [("java/lang/IllegalStateException", 1), ("java/lang/IllegalArgumentException", 2)] s (f_SR_fault (lwx G i 1) (lwx G i 2) (lwx G i 3) s) (f_Mod_fault (lwx G i 1) (lwx G i 2) (lwx G i 3) sg)) (hk : k + 4 ≤ 601024) (hn : n + 24 ≤ 7293034) (kk : ∀ (s2 : jU) (L2 : Nat → Int64) (g2 : jS), Rel s2 g2 → J G m_Law_law 9 601024 7293034 P 1197 [(0, .ref (G.2.1 2)), (1, .ref (ad 0)), (2, .ref (ae 0)), (3, .ref o), (4, .int i)] [] (lwW ad ae G s2 o L2 g2) (k + 4) (n + 24)) : J G m_Law_law 9 601024 7293034 P 445 [(0, .ref (G.2.1 2)), (1, .ref (ad 0)), (2, .ref (ae 0)), (3, .ref o), (4, .int i)] [] (lwW ad ae G s o L sg) k n := by
  rcases H with ⟨s2, g2, h1, h2, h3, hR⟩ | ⟨E, c, g2, hm, h1, h2, h3, hR⟩
  · refine j_aload_n (pc := 445) 1 (jd k_Law_law_5 28 rfl) rfl ?_
    refine j_aload_n (pc := 446) 0 (jd k_Law_law_5 29 rfl) rfl ?_
    refine j_iload (pc := 447) 4 (jd k_Law_law_5 30 rfl) rfl ?_
    refine j_iconst (pc := 449) (v := 1) (jd k_Law_law_5 31 rfl) (by decide) ?_
    refine j_iadd (pc := 450) (jd k_Law_law_5 32 rfl) ?_
    refine j_xald (pc := 451) (f := G.2.2.2) (L := G.2.2.1) 2 (jd k_Law_law_5 33 rfl) rfl (hin 1 (by decide)) ?_
    refine j_aload_n (pc := 452) 0 (jd k_Law_law_5 34 rfl) rfl ?_
    refine j_iload (pc := 453) 4 (jd k_Law_law_5 35 rfl) rfl ?_
    refine j_iconst (pc := 455) (v := 2) (jd k_Law_law_5 36 rfl) (by decide) ?_
    refine j_iadd (pc := 456) (jd k_Law_law_5 37 rfl) ?_
    refine j_xald (pc := 457) (f := G.2.2.2) (L := G.2.2.1) 2 (jd k_Law_law_5 38 rfl) rfl (hin 2 (by decide)) ?_
    refine j_aload_n (pc := 458) 0 (jd k_Law_law_5 39 rfl) rfl ?_
    refine j_iload (pc := 459) 4 (jd k_Law_law_6 0 rfl) rfl ?_
    refine j_iconst (pc := 461) (v := 3) (jd k_Law_law_6 1 rfl) (by decide) ?_
    refine j_iadd (pc := 462) (jd k_Law_law_6 2 rfl) ?_
    refine j_xald (pc := 463) (f := G.2.2.2) (L := G.2.2.1) 2 (jd k_Law_law_6 3 rfl) rfl (hin 3 (by decide)) ?_
    refine jq_SW2 (pc := 464) (d := 9) (mc := 601024) (ms := 7293034) (k := k) (n := n) (st := []) (w2 := lwW ad ae G s2 o L sg) (jConW.frR (jConW.frR (d_fault_ok ad G (lwx G i 1) (lwx G i 2) (lwx G i 3) s  s2 h1) [(o, .inl (G.1 2, 1, .inr (.inl L)))]) (mkR ae G sg)) LW_Law_fault w667 w668 (jd k_Law_law_6 4 rfl) rfl (by decide) (by decide) (by omega) (by omega) rfl rfl rfl ?_
    refine j_istore (pc := 467) (lv' := [(0, .ref (G.2.1 2)), (1, .ref (ad 0)), (2, .ref (ae 0)), (3, .ref o), (4, .int i), (5, .int 0)]) (jd k_Law_law_6 5 rfl) rfl (Nat.le_of_ble_eq_true rfl) rfl ?_
    refine j_aload_n (pc := 469) 2 (jd k_Law_law_6 6 rfl) rfl ?_
    refine j_aload_n (pc := 470) 0 (jd k_Law_law_6 7 rfl) rfl ?_
    refine j_iload (pc := 471) 4 (jd k_Law_law_6 8 rfl) rfl ?_
    refine j_iconst (pc := 473) (v := 1) (jd k_Law_law_6 9 rfl) (by decide) ?_
    refine j_iadd (pc := 474) (jd k_Law_law_6 10 rfl) ?_
    refine j_xald (pc := 475) (f := G.2.2.2) (L := G.2.2.1) 2 (jd k_Law_law_6 11 rfl) rfl (hin 1 (by decide)) ?_
    refine j_aload_n (pc := 476) 0 (jd k_Law_law_6 12 rfl) rfl ?_
    refine j_iload (pc := 477) 4 (jd k_Law_law_6 13 rfl) rfl ?_
    refine j_iconst (pc := 479) (v := 2) (jd k_Law_law_6 14 rfl) (by decide) ?_
    refine j_iadd (pc := 480) (jd k_Law_law_6 15 rfl) ?_
    refine j_xald (pc := 481) (f := G.2.2.2) (L := G.2.2.1) 2 (jd k_Law_law_6 16 rfl) rfl (hin 2 (by decide)) ?_
    refine j_aload_n (pc := 482) 0 (jd k_Law_law_6 17 rfl) rfl ?_
    refine j_iload (pc := 483) 4 (jd k_Law_law_6 18 rfl) rfl ?_
    refine j_iconst (pc := 485) (v := 3) (jd k_Law_law_6 19 rfl) (by decide) ?_
    refine j_iadd (pc := 486) (jd k_Law_law_6 20 rfl) ?_
    refine j_xald (pc := 487) (f := G.2.2.2) (L := G.2.2.1) 2 (jd k_Law_law_6 21 rfl) rfl (hin 3 (by decide)) ?_
    refine jc_V (pc := 488) (d := 9) (mc := 601024) (ms := 7293034) (k := k + 4) (n := n + 24) (st := []) (w := lwW ad ae G s2 o L g2) (ws := lwW ad ae G s2 o L sg) (jCon.post (jCon.frL (c_Mod_fault ae G (lwx G i 1) (lwx G i 2) (lwx G i 3) sg g2 h2) (mkC ad G s2 ++ [(o, .inl (G.1 2, 1, .inr (.inl (L))))])) (fun r w h => (jFrL.eq h : jEq none (lwW ad ae G s2 o L g2) r w))) L0_Mod_fault w1328 w1329 w1330 132 rfl rfl (jd k_Law_law_6 22 rfl) rfl (by decide) (by decide) (by omega) (by omega) rfl rfl ?_
    refine j_aload_n (pc := 491) 2 (jd k_Law_law_6 23 rfl) rfl ?_
    refine jc_V (pc := 492) (d := 9) (mc := 601024) (ms := 7293034) (k := k + 4) (n := n + 24) (st := []) (w := lwW ad ae G s2 o L g2) (ws := lwW ad ae G s2 o L g2) (jCon.post (jCon.frL (c_Mod_thrown ae G g2 0 h3) (mkC ad G s2 ++ [(o, .inl (G.1 2, 1, .inr (.inl (L))))])) (fun r w h => (jFrL.eq h : jEq (some (.int 0)) (lwW ad ae G s2 o L g2) r w))) L0_Mod_thrown w1270 w1271 w1272 132 rfl rfl (jd k_Law_law_6 24 rfl) rfl (by decide) (by decide) (by omega) (by omega) rfl rfl ?_
    refine j_iload (pc := 495) 5 (jd k_Law_law_6 25 rfl) rfl ?_
    refine j_icmp_eq (pc := 497) (tgt := 502) (jd k_Law_law_6 26 rfl) rfl (fun h => ?_) (fun h => absurd rfl h)
    refine j_goto (pc := 502) (tgt := 1197) (jd k_Law_law_6 29 rfl) rfl ?_
    refine j_pick (lv' := [(0, .ref (G.2.1 2)), (1, .ref (ad 0)), (2, .ref (ae 0)), (3, .ref o), (4, .int i)]) [0, 1, 2, 3, 4] rfl ?_
    exact j_widen (k := k + 4) (n := n + 24) (by omega) (by omega) (kk s2 (L) g2 hR)
  · rcases List.mem_cons.mp hm with hm | hm
    · cases hm
      refine j_aload_n (pc := 445) 1 (jd k_Law_law_5 28 rfl) rfl ?_
      refine j_aload_n (pc := 446) 0 (jd k_Law_law_5 29 rfl) rfl ?_
      refine j_iload (pc := 447) 4 (jd k_Law_law_5 30 rfl) rfl ?_
      refine j_iconst (pc := 449) (v := 1) (jd k_Law_law_5 31 rfl) (by decide) ?_
      refine j_iadd (pc := 450) (jd k_Law_law_5 32 rfl) ?_
      refine j_xald (pc := 451) (f := G.2.2.2) (L := G.2.2.1) 2 (jd k_Law_law_5 33 rfl) rfl (hin 1 (by decide)) ?_
      refine j_aload_n (pc := 452) 0 (jd k_Law_law_5 34 rfl) rfl ?_
      refine j_iload (pc := 453) 4 (jd k_Law_law_5 35 rfl) rfl ?_
      refine j_iconst (pc := 455) (v := 2) (jd k_Law_law_5 36 rfl) (by decide) ?_
      refine j_iadd (pc := 456) (jd k_Law_law_5 37 rfl) ?_
      refine j_xald (pc := 457) (f := G.2.2.2) (L := G.2.2.1) 2 (jd k_Law_law_5 38 rfl) rfl (hin 2 (by decide)) ?_
      refine j_aload_n (pc := 458) 0 (jd k_Law_law_5 39 rfl) rfl ?_
      refine j_iload (pc := 459) 4 (jd k_Law_law_6 0 rfl) rfl ?_
      refine j_iconst (pc := 461) (v := 3) (jd k_Law_law_6 1 rfl) (by decide) ?_
      refine j_iadd (pc := 462) (jd k_Law_law_6 2 rfl) ?_
      refine j_xald (pc := 463) (f := G.2.2.2) (L := G.2.2.1) 2 (jd k_Law_law_6 3 rfl) rfl (hin 3 (by decide)) ?_
      refine jq_SW2 (pc := 464) (d := 9) (mc := 601024) (ms := 7293034) (k := k) (n := n) (st := []) (w2 := lwW ad ae G s o L sg) (jConW.frR (jConW.frR (d_fault_ISE ad G (lwx G i 1) (lwx G i 2) (lwx G i 3) s  h1) [(o, .inl (G.1 2, 1, .inr (.inl L)))]) (mkR ae G sg)) LW_Law_fault w667 w668 (jd k_Law_law_6 4 rfl) rfl (by decide) (by decide) (by omega) (by omega) rfl rfl rfl ?_
      refine j_istore (pc := 467) (lv' := [(0, .ref (G.2.1 2)), (1, .ref (ad 0)), (2, .ref (ae 0)), (3, .ref o), (4, .int i), (5, .int 1)]) (jd k_Law_law_6 5 rfl) rfl (Nat.le_of_ble_eq_true rfl) rfl ?_
      refine j_aload_n (pc := 469) 2 (jd k_Law_law_6 6 rfl) rfl ?_
      refine j_aload_n (pc := 470) 0 (jd k_Law_law_6 7 rfl) rfl ?_
      refine j_iload (pc := 471) 4 (jd k_Law_law_6 8 rfl) rfl ?_
      refine j_iconst (pc := 473) (v := 1) (jd k_Law_law_6 9 rfl) (by decide) ?_
      refine j_iadd (pc := 474) (jd k_Law_law_6 10 rfl) ?_
      refine j_xald (pc := 475) (f := G.2.2.2) (L := G.2.2.1) 2 (jd k_Law_law_6 11 rfl) rfl (hin 1 (by decide)) ?_
      refine j_aload_n (pc := 476) 0 (jd k_Law_law_6 12 rfl) rfl ?_
      refine j_iload (pc := 477) 4 (jd k_Law_law_6 13 rfl) rfl ?_
      refine j_iconst (pc := 479) (v := 2) (jd k_Law_law_6 14 rfl) (by decide) ?_
      refine j_iadd (pc := 480) (jd k_Law_law_6 15 rfl) ?_
      refine j_xald (pc := 481) (f := G.2.2.2) (L := G.2.2.1) 2 (jd k_Law_law_6 16 rfl) rfl (hin 2 (by decide)) ?_
      refine j_aload_n (pc := 482) 0 (jd k_Law_law_6 17 rfl) rfl ?_
      refine j_iload (pc := 483) 4 (jd k_Law_law_6 18 rfl) rfl ?_
      refine j_iconst (pc := 485) (v := 3) (jd k_Law_law_6 19 rfl) (by decide) ?_
      refine j_iadd (pc := 486) (jd k_Law_law_6 20 rfl) ?_
      refine j_xald (pc := 487) (f := G.2.2.2) (L := G.2.2.1) 2 (jd k_Law_law_6 21 rfl) rfl (hin 3 (by decide)) ?_
      refine jc_V (pc := 488) (d := 9) (mc := 601024) (ms := 7293034) (k := k + 4) (n := n + 24) (st := []) (w := lwW ad ae G s o L g2) (ws := lwW ad ae G s o L sg) (jCon.post (jCon.frL (c_Mod_fault ae G (lwx G i 1) (lwx G i 2) (lwx G i 3) sg g2 h2) (mkC ad G s ++ [(o, .inl (G.1 2, 1, .inr (.inl (L))))])) (fun r w h => (jFrL.eq h : jEq none (lwW ad ae G s o L g2) r w))) L0_Mod_fault w1328 w1329 w1330 132 rfl rfl (jd k_Law_law_6 22 rfl) rfl (by decide) (by decide) (by omega) (by omega) rfl rfl ?_
      refine j_aload_n (pc := 491) 2 (jd k_Law_law_6 23 rfl) rfl ?_
      refine jc_V (pc := 492) (d := 9) (mc := 601024) (ms := 7293034) (k := k + 4) (n := n + 24) (st := []) (w := lwW ad ae G s o L g2) (ws := lwW ad ae G s o L g2) (jCon.post (jCon.frL (c_Mod_thrown ae G g2 1 h3) (mkC ad G s ++ [(o, .inl (G.1 2, 1, .inr (.inl (L))))])) (fun r w h => (jFrL.eq h : jEq (some (.int 1)) (lwW ad ae G s o L g2) r w))) L0_Mod_thrown w1270 w1271 w1272 132 rfl rfl (jd k_Law_law_6 24 rfl) rfl (by decide) (by decide) (by omega) (by omega) rfl rfl ?_
      refine j_iload (pc := 495) 5 (jd k_Law_law_6 25 rfl) rfl ?_
      refine j_icmp_eq (pc := 497) (tgt := 502) (jd k_Law_law_6 26 rfl) rfl (fun h => ?_) (fun h => absurd rfl h)
      refine j_goto (pc := 502) (tgt := 1197) (jd k_Law_law_6 29 rfl) rfl ?_
      refine j_pick (lv' := [(0, .ref (G.2.1 2)), (1, .ref (ad 0)), (2, .ref (ae 0)), (3, .ref o), (4, .int i)]) [0, 1, 2, 3, 4] rfl ?_
      exact j_widen (k := k + 4) (n := n + 24) (by omega) (by omega) (kk s (L) g2 hR)
    · cases List.mem_singleton.mp hm
      refine j_aload_n (pc := 445) 1 (jd k_Law_law_5 28 rfl) rfl ?_
      refine j_aload_n (pc := 446) 0 (jd k_Law_law_5 29 rfl) rfl ?_
      refine j_iload (pc := 447) 4 (jd k_Law_law_5 30 rfl) rfl ?_
      refine j_iconst (pc := 449) (v := 1) (jd k_Law_law_5 31 rfl) (by decide) ?_
      refine j_iadd (pc := 450) (jd k_Law_law_5 32 rfl) ?_
      refine j_xald (pc := 451) (f := G.2.2.2) (L := G.2.2.1) 2 (jd k_Law_law_5 33 rfl) rfl (hin 1 (by decide)) ?_
      refine j_aload_n (pc := 452) 0 (jd k_Law_law_5 34 rfl) rfl ?_
      refine j_iload (pc := 453) 4 (jd k_Law_law_5 35 rfl) rfl ?_
      refine j_iconst (pc := 455) (v := 2) (jd k_Law_law_5 36 rfl) (by decide) ?_
      refine j_iadd (pc := 456) (jd k_Law_law_5 37 rfl) ?_
      refine j_xald (pc := 457) (f := G.2.2.2) (L := G.2.2.1) 2 (jd k_Law_law_5 38 rfl) rfl (hin 2 (by decide)) ?_
      refine j_aload_n (pc := 458) 0 (jd k_Law_law_5 39 rfl) rfl ?_
      refine j_iload (pc := 459) 4 (jd k_Law_law_6 0 rfl) rfl ?_
      refine j_iconst (pc := 461) (v := 3) (jd k_Law_law_6 1 rfl) (by decide) ?_
      refine j_iadd (pc := 462) (jd k_Law_law_6 2 rfl) ?_
      refine j_xald (pc := 463) (f := G.2.2.2) (L := G.2.2.1) 2 (jd k_Law_law_6 3 rfl) rfl (hin 3 (by decide)) ?_
      refine jq_SW2 (pc := 464) (d := 9) (mc := 601024) (ms := 7293034) (k := k) (n := n) (st := []) (w2 := lwW ad ae G s o L sg) (jConW.frR (jConW.frR (d_fault_IAE ad G (lwx G i 1) (lwx G i 2) (lwx G i 3) s  h1) [(o, .inl (G.1 2, 1, .inr (.inl L)))]) (mkR ae G sg)) LW_Law_fault w667 w668 (jd k_Law_law_6 4 rfl) rfl (by decide) (by decide) (by omega) (by omega) rfl rfl rfl ?_
      refine j_istore (pc := 467) (lv' := [(0, .ref (G.2.1 2)), (1, .ref (ad 0)), (2, .ref (ae 0)), (3, .ref o), (4, .int i), (5, .int 2)]) (jd k_Law_law_6 5 rfl) rfl (Nat.le_of_ble_eq_true rfl) rfl ?_
      refine j_aload_n (pc := 469) 2 (jd k_Law_law_6 6 rfl) rfl ?_
      refine j_aload_n (pc := 470) 0 (jd k_Law_law_6 7 rfl) rfl ?_
      refine j_iload (pc := 471) 4 (jd k_Law_law_6 8 rfl) rfl ?_
      refine j_iconst (pc := 473) (v := 1) (jd k_Law_law_6 9 rfl) (by decide) ?_
      refine j_iadd (pc := 474) (jd k_Law_law_6 10 rfl) ?_
      refine j_xald (pc := 475) (f := G.2.2.2) (L := G.2.2.1) 2 (jd k_Law_law_6 11 rfl) rfl (hin 1 (by decide)) ?_
      refine j_aload_n (pc := 476) 0 (jd k_Law_law_6 12 rfl) rfl ?_
      refine j_iload (pc := 477) 4 (jd k_Law_law_6 13 rfl) rfl ?_
      refine j_iconst (pc := 479) (v := 2) (jd k_Law_law_6 14 rfl) (by decide) ?_
      refine j_iadd (pc := 480) (jd k_Law_law_6 15 rfl) ?_
      refine j_xald (pc := 481) (f := G.2.2.2) (L := G.2.2.1) 2 (jd k_Law_law_6 16 rfl) rfl (hin 2 (by decide)) ?_
      refine j_aload_n (pc := 482) 0 (jd k_Law_law_6 17 rfl) rfl ?_
      refine j_iload (pc := 483) 4 (jd k_Law_law_6 18 rfl) rfl ?_
      refine j_iconst (pc := 485) (v := 3) (jd k_Law_law_6 19 rfl) (by decide) ?_
      refine j_iadd (pc := 486) (jd k_Law_law_6 20 rfl) ?_
      refine j_xald (pc := 487) (f := G.2.2.2) (L := G.2.2.1) 2 (jd k_Law_law_6 21 rfl) rfl (hin 3 (by decide)) ?_
      refine jc_V (pc := 488) (d := 9) (mc := 601024) (ms := 7293034) (k := k + 4) (n := n + 24) (st := []) (w := lwW ad ae G s o L g2) (ws := lwW ad ae G s o L sg) (jCon.post (jCon.frL (c_Mod_fault ae G (lwx G i 1) (lwx G i 2) (lwx G i 3) sg g2 h2) (mkC ad G s ++ [(o, .inl (G.1 2, 1, .inr (.inl (L))))])) (fun r w h => (jFrL.eq h : jEq none (lwW ad ae G s o L g2) r w))) L0_Mod_fault w1328 w1329 w1330 132 rfl rfl (jd k_Law_law_6 22 rfl) rfl (by decide) (by decide) (by omega) (by omega) rfl rfl ?_
      refine j_aload_n (pc := 491) 2 (jd k_Law_law_6 23 rfl) rfl ?_
      refine jc_V (pc := 492) (d := 9) (mc := 601024) (ms := 7293034) (k := k + 4) (n := n + 24) (st := []) (w := lwW ad ae G s o L g2) (ws := lwW ad ae G s o L g2) (jCon.post (jCon.frL (c_Mod_thrown ae G g2 2 h3) (mkC ad G s ++ [(o, .inl (G.1 2, 1, .inr (.inl (L))))])) (fun r w h => (jFrL.eq h : jEq (some (.int 2)) (lwW ad ae G s o L g2) r w))) L0_Mod_thrown w1270 w1271 w1272 132 rfl rfl (jd k_Law_law_6 24 rfl) rfl (by decide) (by decide) (by omega) (by omega) rfl rfl ?_
      refine j_iload (pc := 495) 5 (jd k_Law_law_6 25 rfl) rfl ?_
      refine j_icmp_eq (pc := 497) (tgt := 502) (jd k_Law_law_6 26 rfl) rfl (fun h => ?_) (fun h => absurd rfl h)
      refine j_goto (pc := 502) (tgt := 1197) (jd k_Law_law_6 29 rfl) rfl ?_
      refine j_pick (lv' := [(0, .ref (G.2.1 2)), (1, .ref (ad 0)), (2, .ref (ae 0)), (3, .ref o), (4, .int i)]) [0, 1, 2, 3, 4] rfl ?_
      exact j_widen (k := k + 4) (n := n + 24) (by omega) (by omega) (kk s (L) g2 hR)

