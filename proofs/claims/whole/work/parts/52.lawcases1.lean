set_option maxRecDepth 20000 in
theorem case_crash {ad ae : Nat → Nat} {G : jG} {P : jR → va_W → Prop} {i : Int32} {s : jU} {o : Nat} {L : Nat → Int64} {sg : jS} {k n : Nat} (Rel : jU → jS → Prop) (hin : lwIn G i) (H : FaV Rel [("java/lang/IllegalStateException", 1), ("java/lang/IllegalArgumentException", 2)] s (f_SR_crash (lwx G i 1) (lwx G i 2) s) (f_Mod_crash (lwx G i 1) (lwx G i 2) sg)) (hk : k + 4 ≤ 601024) (hn : n + 24 ≤ 7293034) (kk : ∀ (s2 : jU) (L2 : Nat → Int64) (g2 : jS), Rel s2 g2 → J G m_Law_law 9 601024 7293034 P 1197 [(0, .ref (G.2.1 2)), (1, .ref (ad 0)), (2, .ref (ae 0)), (3, .ref o), (4, .int i)] [] (lwW ad ae G s2 o L2 g2) (k + 4) (n + 24)) : J G m_Law_law 9 601024 7293034 P 505 [(0, .ref (G.2.1 2)), (1, .ref (ad 0)), (2, .ref (ae 0)), (3, .ref o), (4, .int i)] [] (lwW ad ae G s o L sg) k n := by
  rcases H with ⟨s2, g2, h1, h2, h3, hR⟩ | ⟨E, c, g2, hm, h1, h2, h3, hR⟩
  · refine j_aload_n (pc := 505) 1 (jd k_Law_law_6 30 rfl) rfl ?_
    refine j_aload_n (pc := 506) 0 (jd k_Law_law_6 31 rfl) rfl ?_
    refine j_iload (pc := 507) 4 (jd k_Law_law_6 32 rfl) rfl ?_
    refine j_iconst (pc := 509) (v := 1) (jd k_Law_law_6 33 rfl) (by decide) ?_
    refine j_iadd (pc := 510) (jd k_Law_law_6 34 rfl) ?_
    refine j_xald (pc := 511) (f := G.2.2.2) (L := G.2.2.1) 2 (jd k_Law_law_6 35 rfl) rfl (hin 1 (by decide)) ?_
    refine j_aload_n (pc := 512) 0 (jd k_Law_law_6 36 rfl) rfl ?_
    refine j_iload (pc := 513) 4 (jd k_Law_law_6 37 rfl) rfl ?_
    refine j_iconst (pc := 515) (v := 2) (jd k_Law_law_6 38 rfl) (by decide) ?_
    refine j_iadd (pc := 516) (jd k_Law_law_6 39 rfl) ?_
    refine j_xald (pc := 517) (f := G.2.2.2) (L := G.2.2.1) 2 (jd k_Law_law_7 0 rfl) rfl (hin 2 (by decide)) ?_
    refine jq_SW2 (pc := 518) (d := 9) (mc := 601024) (ms := 7293034) (k := k) (n := n) (st := []) (w2 := lwW ad ae G s2 o L sg) (jConW.frR (jConW.frR (d_crash_ok ad G (lwx G i 1) (lwx G i 2) s  s2 h1) [(o, .inl (G.1 2, 1, .inr (.inl L)))]) (mkR ae G sg)) LW_Law_crash w692 w693 (jd k_Law_law_7 1 rfl) rfl (by decide) (by decide) (by omega) (by omega) rfl rfl rfl ?_
    refine j_istore (pc := 521) (lv' := [(0, .ref (G.2.1 2)), (1, .ref (ad 0)), (2, .ref (ae 0)), (3, .ref o), (4, .int i), (5, .int 0)]) (jd k_Law_law_7 2 rfl) rfl (Nat.le_of_ble_eq_true rfl) rfl ?_
    refine j_aload_n (pc := 523) 2 (jd k_Law_law_7 3 rfl) rfl ?_
    refine j_aload_n (pc := 524) 0 (jd k_Law_law_7 4 rfl) rfl ?_
    refine j_iload (pc := 525) 4 (jd k_Law_law_7 5 rfl) rfl ?_
    refine j_iconst (pc := 527) (v := 1) (jd k_Law_law_7 6 rfl) (by decide) ?_
    refine j_iadd (pc := 528) (jd k_Law_law_7 7 rfl) ?_
    refine j_xald (pc := 529) (f := G.2.2.2) (L := G.2.2.1) 2 (jd k_Law_law_7 8 rfl) rfl (hin 1 (by decide)) ?_
    refine j_aload_n (pc := 530) 0 (jd k_Law_law_7 9 rfl) rfl ?_
    refine j_iload (pc := 531) 4 (jd k_Law_law_7 10 rfl) rfl ?_
    refine j_iconst (pc := 533) (v := 2) (jd k_Law_law_7 11 rfl) (by decide) ?_
    refine j_iadd (pc := 534) (jd k_Law_law_7 12 rfl) ?_
    refine j_xald (pc := 535) (f := G.2.2.2) (L := G.2.2.1) 2 (jd k_Law_law_7 13 rfl) rfl (hin 2 (by decide)) ?_
    refine jc_V (pc := 536) (d := 9) (mc := 601024) (ms := 7293034) (k := k + 3) (n := n + 18) (st := []) (w := lwW ad ae G s2 o L g2) (ws := lwW ad ae G s2 o L sg) (jCon.post (jCon.frL (c_Mod_crash ae G (lwx G i 1) (lwx G i 2) sg g2 h2) (mkC ad G s2 ++ [(o, .inl (G.1 2, 1, .inr (.inl (L))))])) (fun r w h => (jFrL.eq h : jEq none (lwW ad ae G s2 o L g2) r w))) L0_Mod_crash w1332 w1333 w1334 132 rfl rfl (jd k_Law_law_7 14 rfl) rfl (by decide) (by decide) (by omega) (by omega) rfl rfl ?_
    refine j_aload_n (pc := 539) 2 (jd k_Law_law_7 15 rfl) rfl ?_
    refine jc_V (pc := 540) (d := 9) (mc := 601024) (ms := 7293034) (k := k + 3) (n := n + 18) (st := []) (w := lwW ad ae G s2 o L g2) (ws := lwW ad ae G s2 o L g2) (jCon.post (jCon.frL (c_Mod_thrown ae G g2 0 h3) (mkC ad G s2 ++ [(o, .inl (G.1 2, 1, .inr (.inl (L))))])) (fun r w h => (jFrL.eq h : jEq (some (.int 0)) (lwW ad ae G s2 o L g2) r w))) L0_Mod_thrown w1270 w1271 w1272 132 rfl rfl (jd k_Law_law_7 16 rfl) rfl (by decide) (by decide) (by omega) (by omega) rfl rfl ?_
    refine j_iload (pc := 543) 5 (jd k_Law_law_7 17 rfl) rfl ?_
    refine j_icmp_eq (pc := 545) (tgt := 550) (jd k_Law_law_7 18 rfl) rfl (fun h => ?_) (fun h => absurd rfl h)
    refine j_goto (pc := 550) (tgt := 1197) (jd k_Law_law_7 21 rfl) rfl ?_
    refine j_pick (lv' := [(0, .ref (G.2.1 2)), (1, .ref (ad 0)), (2, .ref (ae 0)), (3, .ref o), (4, .int i)]) [0, 1, 2, 3, 4] rfl ?_
    exact j_widen (k := k + 3) (n := n + 18) (by omega) (by omega) (kk s2 (L) g2 hR)
  · rcases List.mem_cons.mp hm with hm | hm
    · cases hm
      refine j_aload_n (pc := 505) 1 (jd k_Law_law_6 30 rfl) rfl ?_
      refine j_aload_n (pc := 506) 0 (jd k_Law_law_6 31 rfl) rfl ?_
      refine j_iload (pc := 507) 4 (jd k_Law_law_6 32 rfl) rfl ?_
      refine j_iconst (pc := 509) (v := 1) (jd k_Law_law_6 33 rfl) (by decide) ?_
      refine j_iadd (pc := 510) (jd k_Law_law_6 34 rfl) ?_
      refine j_xald (pc := 511) (f := G.2.2.2) (L := G.2.2.1) 2 (jd k_Law_law_6 35 rfl) rfl (hin 1 (by decide)) ?_
      refine j_aload_n (pc := 512) 0 (jd k_Law_law_6 36 rfl) rfl ?_
      refine j_iload (pc := 513) 4 (jd k_Law_law_6 37 rfl) rfl ?_
      refine j_iconst (pc := 515) (v := 2) (jd k_Law_law_6 38 rfl) (by decide) ?_
      refine j_iadd (pc := 516) (jd k_Law_law_6 39 rfl) ?_
      refine j_xald (pc := 517) (f := G.2.2.2) (L := G.2.2.1) 2 (jd k_Law_law_7 0 rfl) rfl (hin 2 (by decide)) ?_
      refine jq_SW2 (pc := 518) (d := 9) (mc := 601024) (ms := 7293034) (k := k) (n := n) (st := []) (w2 := lwW ad ae G s o L sg) (jConW.frR (jConW.frR (d_crash_ISE ad G (lwx G i 1) (lwx G i 2) s  h1) [(o, .inl (G.1 2, 1, .inr (.inl L)))]) (mkR ae G sg)) LW_Law_crash w692 w693 (jd k_Law_law_7 1 rfl) rfl (by decide) (by decide) (by omega) (by omega) rfl rfl rfl ?_
      refine j_istore (pc := 521) (lv' := [(0, .ref (G.2.1 2)), (1, .ref (ad 0)), (2, .ref (ae 0)), (3, .ref o), (4, .int i), (5, .int 1)]) (jd k_Law_law_7 2 rfl) rfl (Nat.le_of_ble_eq_true rfl) rfl ?_
      refine j_aload_n (pc := 523) 2 (jd k_Law_law_7 3 rfl) rfl ?_
      refine j_aload_n (pc := 524) 0 (jd k_Law_law_7 4 rfl) rfl ?_
      refine j_iload (pc := 525) 4 (jd k_Law_law_7 5 rfl) rfl ?_
      refine j_iconst (pc := 527) (v := 1) (jd k_Law_law_7 6 rfl) (by decide) ?_
      refine j_iadd (pc := 528) (jd k_Law_law_7 7 rfl) ?_
      refine j_xald (pc := 529) (f := G.2.2.2) (L := G.2.2.1) 2 (jd k_Law_law_7 8 rfl) rfl (hin 1 (by decide)) ?_
      refine j_aload_n (pc := 530) 0 (jd k_Law_law_7 9 rfl) rfl ?_
      refine j_iload (pc := 531) 4 (jd k_Law_law_7 10 rfl) rfl ?_
      refine j_iconst (pc := 533) (v := 2) (jd k_Law_law_7 11 rfl) (by decide) ?_
      refine j_iadd (pc := 534) (jd k_Law_law_7 12 rfl) ?_
      refine j_xald (pc := 535) (f := G.2.2.2) (L := G.2.2.1) 2 (jd k_Law_law_7 13 rfl) rfl (hin 2 (by decide)) ?_
      refine jc_V (pc := 536) (d := 9) (mc := 601024) (ms := 7293034) (k := k + 3) (n := n + 18) (st := []) (w := lwW ad ae G s o L g2) (ws := lwW ad ae G s o L sg) (jCon.post (jCon.frL (c_Mod_crash ae G (lwx G i 1) (lwx G i 2) sg g2 h2) (mkC ad G s ++ [(o, .inl (G.1 2, 1, .inr (.inl (L))))])) (fun r w h => (jFrL.eq h : jEq none (lwW ad ae G s o L g2) r w))) L0_Mod_crash w1332 w1333 w1334 132 rfl rfl (jd k_Law_law_7 14 rfl) rfl (by decide) (by decide) (by omega) (by omega) rfl rfl ?_
      refine j_aload_n (pc := 539) 2 (jd k_Law_law_7 15 rfl) rfl ?_
      refine jc_V (pc := 540) (d := 9) (mc := 601024) (ms := 7293034) (k := k + 3) (n := n + 18) (st := []) (w := lwW ad ae G s o L g2) (ws := lwW ad ae G s o L g2) (jCon.post (jCon.frL (c_Mod_thrown ae G g2 1 h3) (mkC ad G s ++ [(o, .inl (G.1 2, 1, .inr (.inl (L))))])) (fun r w h => (jFrL.eq h : jEq (some (.int 1)) (lwW ad ae G s o L g2) r w))) L0_Mod_thrown w1270 w1271 w1272 132 rfl rfl (jd k_Law_law_7 16 rfl) rfl (by decide) (by decide) (by omega) (by omega) rfl rfl ?_
      refine j_iload (pc := 543) 5 (jd k_Law_law_7 17 rfl) rfl ?_
      refine j_icmp_eq (pc := 545) (tgt := 550) (jd k_Law_law_7 18 rfl) rfl (fun h => ?_) (fun h => absurd rfl h)
      refine j_goto (pc := 550) (tgt := 1197) (jd k_Law_law_7 21 rfl) rfl ?_
      refine j_pick (lv' := [(0, .ref (G.2.1 2)), (1, .ref (ad 0)), (2, .ref (ae 0)), (3, .ref o), (4, .int i)]) [0, 1, 2, 3, 4] rfl ?_
      exact j_widen (k := k + 3) (n := n + 18) (by omega) (by omega) (kk s (L) g2 hR)
    · cases List.mem_singleton.mp hm
      refine j_aload_n (pc := 505) 1 (jd k_Law_law_6 30 rfl) rfl ?_
      refine j_aload_n (pc := 506) 0 (jd k_Law_law_6 31 rfl) rfl ?_
      refine j_iload (pc := 507) 4 (jd k_Law_law_6 32 rfl) rfl ?_
      refine j_iconst (pc := 509) (v := 1) (jd k_Law_law_6 33 rfl) (by decide) ?_
      refine j_iadd (pc := 510) (jd k_Law_law_6 34 rfl) ?_
      refine j_xald (pc := 511) (f := G.2.2.2) (L := G.2.2.1) 2 (jd k_Law_law_6 35 rfl) rfl (hin 1 (by decide)) ?_
      refine j_aload_n (pc := 512) 0 (jd k_Law_law_6 36 rfl) rfl ?_
      refine j_iload (pc := 513) 4 (jd k_Law_law_6 37 rfl) rfl ?_
      refine j_iconst (pc := 515) (v := 2) (jd k_Law_law_6 38 rfl) (by decide) ?_
      refine j_iadd (pc := 516) (jd k_Law_law_6 39 rfl) ?_
      refine j_xald (pc := 517) (f := G.2.2.2) (L := G.2.2.1) 2 (jd k_Law_law_7 0 rfl) rfl (hin 2 (by decide)) ?_
      refine jq_SW2 (pc := 518) (d := 9) (mc := 601024) (ms := 7293034) (k := k) (n := n) (st := []) (w2 := lwW ad ae G s o L sg) (jConW.frR (jConW.frR (d_crash_IAE ad G (lwx G i 1) (lwx G i 2) s  h1) [(o, .inl (G.1 2, 1, .inr (.inl L)))]) (mkR ae G sg)) LW_Law_crash w692 w693 (jd k_Law_law_7 1 rfl) rfl (by decide) (by decide) (by omega) (by omega) rfl rfl rfl ?_
      refine j_istore (pc := 521) (lv' := [(0, .ref (G.2.1 2)), (1, .ref (ad 0)), (2, .ref (ae 0)), (3, .ref o), (4, .int i), (5, .int 2)]) (jd k_Law_law_7 2 rfl) rfl (Nat.le_of_ble_eq_true rfl) rfl ?_
      refine j_aload_n (pc := 523) 2 (jd k_Law_law_7 3 rfl) rfl ?_
      refine j_aload_n (pc := 524) 0 (jd k_Law_law_7 4 rfl) rfl ?_
      refine j_iload (pc := 525) 4 (jd k_Law_law_7 5 rfl) rfl ?_
      refine j_iconst (pc := 527) (v := 1) (jd k_Law_law_7 6 rfl) (by decide) ?_
      refine j_iadd (pc := 528) (jd k_Law_law_7 7 rfl) ?_
      refine j_xald (pc := 529) (f := G.2.2.2) (L := G.2.2.1) 2 (jd k_Law_law_7 8 rfl) rfl (hin 1 (by decide)) ?_
      refine j_aload_n (pc := 530) 0 (jd k_Law_law_7 9 rfl) rfl ?_
      refine j_iload (pc := 531) 4 (jd k_Law_law_7 10 rfl) rfl ?_
      refine j_iconst (pc := 533) (v := 2) (jd k_Law_law_7 11 rfl) (by decide) ?_
      refine j_iadd (pc := 534) (jd k_Law_law_7 12 rfl) ?_
      refine j_xald (pc := 535) (f := G.2.2.2) (L := G.2.2.1) 2 (jd k_Law_law_7 13 rfl) rfl (hin 2 (by decide)) ?_
      refine jc_V (pc := 536) (d := 9) (mc := 601024) (ms := 7293034) (k := k + 3) (n := n + 18) (st := []) (w := lwW ad ae G s o L g2) (ws := lwW ad ae G s o L sg) (jCon.post (jCon.frL (c_Mod_crash ae G (lwx G i 1) (lwx G i 2) sg g2 h2) (mkC ad G s ++ [(o, .inl (G.1 2, 1, .inr (.inl (L))))])) (fun r w h => (jFrL.eq h : jEq none (lwW ad ae G s o L g2) r w))) L0_Mod_crash w1332 w1333 w1334 132 rfl rfl (jd k_Law_law_7 14 rfl) rfl (by decide) (by decide) (by omega) (by omega) rfl rfl ?_
      refine j_aload_n (pc := 539) 2 (jd k_Law_law_7 15 rfl) rfl ?_
      refine jc_V (pc := 540) (d := 9) (mc := 601024) (ms := 7293034) (k := k + 3) (n := n + 18) (st := []) (w := lwW ad ae G s o L g2) (ws := lwW ad ae G s o L g2) (jCon.post (jCon.frL (c_Mod_thrown ae G g2 2 h3) (mkC ad G s ++ [(o, .inl (G.1 2, 1, .inr (.inl (L))))])) (fun r w h => (jFrL.eq h : jEq (some (.int 2)) (lwW ad ae G s o L g2) r w))) L0_Mod_thrown w1270 w1271 w1272 132 rfl rfl (jd k_Law_law_7 16 rfl) rfl (by decide) (by decide) (by omega) (by omega) rfl rfl ?_
      refine j_iload (pc := 543) 5 (jd k_Law_law_7 17 rfl) rfl ?_
      refine j_icmp_eq (pc := 545) (tgt := 550) (jd k_Law_law_7 18 rfl) rfl (fun h => ?_) (fun h => absurd rfl h)
      refine j_goto (pc := 550) (tgt := 1197) (jd k_Law_law_7 21 rfl) rfl ?_
      refine j_pick (lv' := [(0, .ref (G.2.1 2)), (1, .ref (ad 0)), (2, .ref (ae 0)), (3, .ref o), (4, .int i)]) [0, 1, 2, 3, 4] rfl ?_
      exact j_widen (k := k + 3) (n := n + 18) (by omega) (by omega) (kk s (L) g2 hR)

set_option maxRecDepth 20000 in
theorem case_next {ad ae : Nat → Nat} {G : jG} {P : jR → va_W → Prop} {i : Int32} {s : jU} {o : Nat} {L : Nat → Int64} {sg : jS} {k n : Nat} (Rel : jU → jS → Prop) (hin : lwIn G i) (H : FaI Rel [("java/lang/IllegalStateException", 1)] s (f_SR_next s) (f_Mod_next sg)) (hk : k + 4 ≤ 601024) (hn : n + 24 ≤ 7293034) (kk : ∀ (s2 : jU) (L2 : Nat → Int64) (g2 : jS), Rel s2 g2 → J G m_Law_law 9 601024 7293034 P 1197 [(0, .ref (G.2.1 2)), (1, .ref (ad 0)), (2, .ref (ae 0)), (3, .ref o), (4, .int i)] [] (lwW ad ae G s2 o L2 g2) (k + 4) (n + 24)) : J G m_Law_law 9 601024 7293034 P 553 [(0, .ref (G.2.1 2)), (1, .ref (ad 0)), (2, .ref (ae 0)), (3, .ref o), (4, .int i)] [] (lwW ad ae G s o L sg) k n := by
  rcases H with ⟨v, s2, g2, h1, h2, h3, hR⟩ | ⟨E, c, b, g2, hm, h1, h2, h3, hR⟩
  · refine j_aload_n (pc := 553) 1 (jd k_Law_law_7 22 rfl) rfl ?_
    refine j_aload_n (pc := 554) 3 (jd k_Law_law_7 23 rfl) rfl ?_
    refine jq_SW (pc := 555) (d := 9) (mc := 601024) (ms := 7293034) (k := k) (n := n) (st := []) (w2 := lwW ad ae G s2 o (vp_updL L (0 : Int32).toNatClampNeg v.toInt64) sg) (jConW.frR (d_next_ok ad G  s o L  v s2 h1) (mkR ae G sg)) LW_Law_next w704 w705 (jd k_Law_law_7 24 rfl) rfl (by decide) (by decide) (by omega) (by omega) rfl rfl rfl ?_
    refine j_istore (pc := 558) (lv' := [(0, .ref (G.2.1 2)), (1, .ref (ad 0)), (2, .ref (ae 0)), (3, .ref o), (4, .int i), (5, .int 0)]) (jd k_Law_law_7 25 rfl) rfl (Nat.le_of_ble_eq_true rfl) rfl ?_
    refine j_aload_n (pc := 560) 2 (jd k_Law_law_7 26 rfl) rfl ?_
    refine jc_V (pc := 561) (d := 9) (mc := 601024) (ms := 7293034) (k := k + 1) (n := n + 6) (st := []) (w := lwW ad ae G s2 o (vp_updL L (0 : Int32).toNatClampNeg v.toInt64) g2) (ws := lwW ad ae G s2 o (vp_updL L (0 : Int32).toNatClampNeg v.toInt64) sg) (jCon.post (jCon.frL (c_Mod_next ae G  sg (v, g2) h2) (mkC ad G s2 ++ [(o, .inl (G.1 2, 1, .inr (.inl (vp_updL L (0 : Int32).toNatClampNeg v.toInt64))))])) (fun r w h => (jFrL.eq h : jEq (some (.int v)) (lwW ad ae G s2 o (vp_updL L (0 : Int32).toNatClampNeg v.toInt64) g2) r w))) L0_Mod_next w1336 w1337 w1338 132 rfl rfl (jd k_Law_law_7 27 rfl) rfl (by decide) (by decide) (by omega) (by omega) rfl rfl ?_
    refine j_istore (pc := 564) (lv' := [(0, .ref (G.2.1 2)), (1, .ref (ad 0)), (2, .ref (ae 0)), (3, .ref o), (4, .int i), (5, .int 0), (6, .int v)]) (jd k_Law_law_7 28 rfl) rfl (Nat.le_of_ble_eq_true rfl) rfl ?_
    refine j_aload_n (pc := 566) 2 (jd k_Law_law_7 29 rfl) rfl ?_
    refine jc_V (pc := 567) (d := 9) (mc := 601024) (ms := 7293034) (k := k + 1) (n := n + 6) (st := []) (w := lwW ad ae G s2 o (vp_updL L (0 : Int32).toNatClampNeg v.toInt64) g2) (ws := lwW ad ae G s2 o (vp_updL L (0 : Int32).toNatClampNeg v.toInt64) g2) (jCon.post (jCon.frL (c_Mod_thrown ae G g2 0 h3) (mkC ad G s2 ++ [(o, .inl (G.1 2, 1, .inr (.inl (vp_updL L (0 : Int32).toNatClampNeg v.toInt64))))])) (fun r w h => (jFrL.eq h : jEq (some (.int 0)) (lwW ad ae G s2 o (vp_updL L (0 : Int32).toNatClampNeg v.toInt64) g2) r w))) L0_Mod_thrown w1270 w1271 w1272 132 rfl rfl (jd k_Law_law_7 30 rfl) rfl (by decide) (by decide) (by omega) (by omega) rfl rfl ?_
    refine j_iload (pc := 570) 5 (jd k_Law_law_7 31 rfl) rfl ?_
    refine j_icmp_eq (pc := 572) (tgt := 577) (jd k_Law_law_7 32 rfl) rfl (fun h => ?_) (fun h => absurd rfl h)
    refine j_iload (pc := 577) 5 (jd k_Law_law_7 35 rfl) rfl ?_
    refine j_if_ne (pc := 579) (tgt := 594) (jd k_Law_law_7 36 rfl) rfl (fun h => absurd rfl h) (fun h => ?_)
    refine j_aload_n (pc := 582) 3 (jd k_Law_law_7 37 rfl) rfl ?_
    refine j_iconst (pc := 583) (v := 0) (jd k_Law_law_7 38 rfl) (by decide) ?_
    refine j_lald (pc := 584) (f := vp_updL L (0 : Int32).toNatClampNeg v.toInt64) 131 (jd k_Law_law_7 39 rfl) rfl (jin.vp (by decide)) ?_
    rw [vp_updL_at]
    refine j_iload (pc := 585) 6 (jd k_Law_law_8 0 rfl) rfl ?_
    refine j_i2l (pc := 587) (jd k_Law_law_8 1 rfl) ?_
    refine j_lcmp (pc := 588) (jd k_Law_law_8 2 rfl) ?_
    refine j_if_eq (pc := 589) (tgt := 594) (jd k_Law_law_8 3 rfl) rfl (fun h => ?_) (fun h => absurd (lg_cmp_self _) h)
    refine j_goto (pc := 594) (tgt := 1197) (jd k_Law_law_8 6 rfl) rfl ?_
    refine j_pick (lv' := [(0, .ref (G.2.1 2)), (1, .ref (ad 0)), (2, .ref (ae 0)), (3, .ref o), (4, .int i)]) [0, 1, 2, 3, 4] rfl ?_
    exact j_widen (k := k + 1) (n := n + 6) (by omega) (by omega) (kk s2 (vp_updL L (0 : Int32).toNatClampNeg v.toInt64) g2 hR)
  · cases List.mem_singleton.mp hm
    refine j_aload_n (pc := 553) 1 (jd k_Law_law_7 22 rfl) rfl ?_
    refine j_aload_n (pc := 554) 3 (jd k_Law_law_7 23 rfl) rfl ?_
    refine jq_SW (pc := 555) (d := 9) (mc := 601024) (ms := 7293034) (k := k) (n := n) (st := []) (w2 := lwW ad ae G s o L sg) (jConW.frR (d_next_ISE ad G  s o L  h1) (mkR ae G sg)) LW_Law_next w704 w705 (jd k_Law_law_7 24 rfl) rfl (by decide) (by decide) (by omega) (by omega) rfl rfl rfl ?_
    refine j_istore (pc := 558) (lv' := [(0, .ref (G.2.1 2)), (1, .ref (ad 0)), (2, .ref (ae 0)), (3, .ref o), (4, .int i), (5, .int 1)]) (jd k_Law_law_7 25 rfl) rfl (Nat.le_of_ble_eq_true rfl) rfl ?_
    refine j_aload_n (pc := 560) 2 (jd k_Law_law_7 26 rfl) rfl ?_
    refine jc_V (pc := 561) (d := 9) (mc := 601024) (ms := 7293034) (k := k + 1) (n := n + 6) (st := []) (w := lwW ad ae G s o L g2) (ws := lwW ad ae G s o L sg) (jCon.post (jCon.frL (c_Mod_next ae G  sg (b, g2) h2) (mkC ad G s ++ [(o, .inl (G.1 2, 1, .inr (.inl (L))))])) (fun r w h => (jFrL.eq h : jEq (some (.int b)) (lwW ad ae G s o L g2) r w))) L0_Mod_next w1336 w1337 w1338 132 rfl rfl (jd k_Law_law_7 27 rfl) rfl (by decide) (by decide) (by omega) (by omega) rfl rfl ?_
    refine j_istore (pc := 564) (lv' := [(0, .ref (G.2.1 2)), (1, .ref (ad 0)), (2, .ref (ae 0)), (3, .ref o), (4, .int i), (5, .int 1), (6, .int b)]) (jd k_Law_law_7 28 rfl) rfl (Nat.le_of_ble_eq_true rfl) rfl ?_
    refine j_aload_n (pc := 566) 2 (jd k_Law_law_7 29 rfl) rfl ?_
    refine jc_V (pc := 567) (d := 9) (mc := 601024) (ms := 7293034) (k := k + 1) (n := n + 6) (st := []) (w := lwW ad ae G s o L g2) (ws := lwW ad ae G s o L g2) (jCon.post (jCon.frL (c_Mod_thrown ae G g2 1 h3) (mkC ad G s ++ [(o, .inl (G.1 2, 1, .inr (.inl (L))))])) (fun r w h => (jFrL.eq h : jEq (some (.int 1)) (lwW ad ae G s o L g2) r w))) L0_Mod_thrown w1270 w1271 w1272 132 rfl rfl (jd k_Law_law_7 30 rfl) rfl (by decide) (by decide) (by omega) (by omega) rfl rfl ?_
    refine j_iload (pc := 570) 5 (jd k_Law_law_7 31 rfl) rfl ?_
    refine j_icmp_eq (pc := 572) (tgt := 577) (jd k_Law_law_7 32 rfl) rfl (fun h => ?_) (fun h => absurd rfl h)
    refine j_iload (pc := 577) 5 (jd k_Law_law_7 35 rfl) rfl ?_
    refine j_if_ne (pc := 579) (tgt := 594) (jd k_Law_law_7 36 rfl) rfl (fun h => ?_) (fun h => absurd h (by decide))
    refine j_goto (pc := 594) (tgt := 1197) (jd k_Law_law_8 6 rfl) rfl ?_
    refine j_pick (lv' := [(0, .ref (G.2.1 2)), (1, .ref (ad 0)), (2, .ref (ae 0)), (3, .ref o), (4, .int i)]) [0, 1, 2, 3, 4] rfl ?_
    exact j_widen (k := k + 1) (n := n + 6) (by omega) (by omega) (kk s (L) g2 hR)

set_option maxRecDepth 20000 in
theorem case_state {ad ae : Nat → Nat} {G : jG} {P : jR → va_W → Prop} {i : Int32} {s : jU} {o : Nat} {L : Nat → Int64} {sg : jS} {k n : Nat} (Rel : jU → jS → Prop) (hin : lwIn G i) (H : FaQ Rel s (f_SR_state s) (f_Mod_state sg)) (hk : k + 4 ≤ 601024) (hn : n + 24 ≤ 7293034) (kk : ∀ (s2 : jU) (L2 : Nat → Int64) (g2 : jS), Rel s2 g2 → J G m_Law_law 9 601024 7293034 P 1197 [(0, .ref (G.2.1 2)), (1, .ref (ad 0)), (2, .ref (ae 0)), (3, .ref o), (4, .int i)] [] (lwW ad ae G s2 o L2 g2) (k + 4) (n + 24)) : J G m_Law_law 9 601024 7293034 P 597 [(0, .ref (G.2.1 2)), (1, .ref (ad 0)), (2, .ref (ae 0)), (3, .ref o), (4, .int i)] [] (lwW ad ae G s o L sg) k n := by
  obtain ⟨v, g2, h1, h2, hR⟩ := H
  refine j_aload_n (pc := 597) 1 (jd k_Law_law_8 7 rfl) rfl ?_
  refine jc_V (pc := 598) (d := 9) (mc := 601024) (ms := 7293034) (k := k) (n := n) (st := []) (w := lwW ad ae G s o L sg) (ws := lwW ad ae G s o L sg) (jCon.post (jCon.frR (jCon.frR (c_SR_state ad G  s v h1) [(o, .inl (G.1 2, 1, .inr (.inl L)))]) (mkR ae G sg)) (fun r w h => (jFrR.eq (by obtain ⟨w0, e0, h⟩ := h; exact ⟨w0, e0, jFrR.eq h⟩) : jEq (some (.int v)) (lwW ad ae G s o L sg) r w))) L0_SR_state w369 w370 w371 0 rfl rfl (jd k_Law_law_8 8 rfl) rfl (by decide) (by decide) (by omega) (by omega) rfl rfl ?_
  refine j_aload_n (pc := 601) 2 (jd k_Law_law_8 9 rfl) rfl ?_
  refine jc_V (pc := 602) (d := 9) (mc := 601024) (ms := 7293034) (k := k) (n := n) (st := [.int v]) (w := lwW ad ae G s o L g2) (ws := lwW ad ae G s o L sg) (jCon.post (jCon.frL (c_Mod_state ae G  sg (v, g2) h2) (mkC ad G s ++ [(o, .inl (G.1 2, 1, .inr (.inl (L))))])) (fun r w h => (jFrL.eq h : jEq (some (.int v)) (lwW ad ae G s o L g2) r w))) L0_Mod_state w1426 w1427 w1428 132 rfl rfl (jd k_Law_law_8 10 rfl) rfl (by show (1 : Nat) + 0 ≤ 8; decide) (by decide) (by omega) (by omega) rfl rfl ?_
  refine j_icmp_eq (pc := 605) (tgt := 1197) (jd k_Law_law_8 11 rfl) rfl (fun h => ?_) (fun h => absurd rfl h)
  exact j_widen (k := k) (n := n) (by omega) (by omega) (kk s (L) g2 hR)

set_option maxRecDepth 20000 in
theorem case_parties {ad ae : Nat → Nat} {G : jG} {P : jR → va_W → Prop} {i : Int32} {s : jU} {o : Nat} {L : Nat → Int64} {sg : jS} {k n : Nat} (Rel : jU → jS → Prop) (hin : lwIn G i) (H : FaQ Rel s (f_SR_parties (lwx G i 1) s) (f_Mod_parties (lwx G i 1) sg)) (hk : k + 4 ≤ 601024) (hn : n + 24 ≤ 7293034) (kk : ∀ (s2 : jU) (L2 : Nat → Int64) (g2 : jS), Rel s2 g2 → J G m_Law_law 9 601024 7293034 P 1197 [(0, .ref (G.2.1 2)), (1, .ref (ad 0)), (2, .ref (ae 0)), (3, .ref o), (4, .int i)] [] (lwW ad ae G s2 o L2 g2) (k + 4) (n + 24)) : J G m_Law_law 9 601024 7293034 P 610 [(0, .ref (G.2.1 2)), (1, .ref (ad 0)), (2, .ref (ae 0)), (3, .ref o), (4, .int i)] [] (lwW ad ae G s o L sg) k n := by
  obtain ⟨v, g2, h1, h2, hR⟩ := H
  refine j_aload_n (pc := 610) 1 (jd k_Law_law_8 14 rfl) rfl ?_
  refine j_aload_n (pc := 611) 0 (jd k_Law_law_8 15 rfl) rfl ?_
  refine j_iload (pc := 612) 4 (jd k_Law_law_8 16 rfl) rfl ?_
  refine j_iconst (pc := 614) (v := 1) (jd k_Law_law_8 17 rfl) (by decide) ?_
  refine j_iadd (pc := 615) (jd k_Law_law_8 18 rfl) ?_
  refine j_xald (pc := 616) (f := G.2.2.2) (L := G.2.2.1) 2 (jd k_Law_law_8 19 rfl) rfl (hin 1 (by decide)) ?_
  refine jc_V (pc := 617) (d := 9) (mc := 601024) (ms := 7293034) (k := k) (n := n) (st := []) (w := lwW ad ae G s o L sg) (ws := lwW ad ae G s o L sg) (jCon.post (jCon.frR (jCon.frR (c_SR_parties ad G (lwx G i 1) s v h1) [(o, .inl (G.1 2, 1, .inr (.inl L)))]) (mkR ae G sg)) (fun r w h => (jFrR.eq (by obtain ⟨w0, e0, h⟩ := h; exact ⟨w0, e0, jFrR.eq h⟩) : jEq (some (.int v)) (lwW ad ae G s o L sg) r w))) L0_SR_parties w377 w378 w379 0 rfl rfl (jd k_Law_law_8 20 rfl) rfl (by decide) (by decide) (by omega) (by omega) rfl rfl ?_
  refine j_aload_n (pc := 620) 2 (jd k_Law_law_8 21 rfl) rfl ?_
  refine j_aload_n (pc := 621) 0 (jd k_Law_law_8 22 rfl) rfl ?_
  refine j_iload (pc := 622) 4 (jd k_Law_law_8 23 rfl) rfl ?_
  refine j_iconst (pc := 624) (v := 1) (jd k_Law_law_8 24 rfl) (by decide) ?_
  refine j_iadd (pc := 625) (jd k_Law_law_8 25 rfl) ?_
  refine j_xald (pc := 626) (f := G.2.2.2) (L := G.2.2.1) 2 (jd k_Law_law_8 26 rfl) rfl (hin 1 (by decide)) ?_
  refine jc_V (pc := 627) (d := 9) (mc := 601024) (ms := 7293034) (k := k) (n := n) (st := [.int v]) (w := lwW ad ae G s o L g2) (ws := lwW ad ae G s o L sg) (jCon.post (jCon.frL (c_Mod_parties ae G (lwx G i 1) sg (v, g2) h2) (mkC ad G s ++ [(o, .inl (G.1 2, 1, .inr (.inl (L))))])) (fun r w h => (jFrL.eq h : jEq (some (.int v)) (lwW ad ae G s o L g2) r w))) L0_Mod_parties w1430 w1431 w1432 132 rfl rfl (jd k_Law_law_8 27 rfl) rfl (by show (1 : Nat) + 0 ≤ 8; decide) (by decide) (by omega) (by omega) rfl rfl ?_
  refine j_icmp_eq (pc := 630) (tgt := 1197) (jd k_Law_law_8 28 rfl) rfl (fun h => ?_) (fun h => absurd rfl h)
  exact j_widen (k := k) (n := n) (by omega) (by omega) (kk s (L) g2 hR)

set_option maxRecDepth 20000 in
theorem case_complaints {ad ae : Nat → Nat} {G : jG} {P : jR → va_W → Prop} {i : Int32} {s : jU} {o : Nat} {L : Nat → Int64} {sg : jS} {k n : Nat} (Rel : jU → jS → Prop) (hin : lwIn G i) (H : FaP Rel [("java/lang/IllegalArgumentException", 1)] s (f_SR_complaints (lwx G i 1) s) (f_Mod_complaints (lwx G i 1) sg)) (hk : k + 4 ≤ 601024) (hn : n + 24 ≤ 7293034) (kk : ∀ (s2 : jU) (L2 : Nat → Int64) (g2 : jS), Rel s2 g2 → J G m_Law_law 9 601024 7293034 P 1197 [(0, .ref (G.2.1 2)), (1, .ref (ad 0)), (2, .ref (ae 0)), (3, .ref o), (4, .int i)] [] (lwW ad ae G s2 o L2 g2) (k + 4) (n + 24)) : J G m_Law_law 9 601024 7293034 P 635 [(0, .ref (G.2.1 2)), (1, .ref (ad 0)), (2, .ref (ae 0)), (3, .ref o), (4, .int i)] [] (lwW ad ae G s o L sg) k n := by
  rcases H with ⟨v, g2, h1, h2, h3, hR⟩ | ⟨E, c, b, g2, hm, h1, h2, h3, hR⟩
  · refine j_aload_n (pc := 635) 1 (jd k_Law_law_8 31 rfl) rfl ?_
    refine j_aload_n (pc := 636) 0 (jd k_Law_law_8 32 rfl) rfl ?_
    refine j_iload (pc := 637) 4 (jd k_Law_law_8 33 rfl) rfl ?_
    refine j_iconst (pc := 639) (v := 1) (jd k_Law_law_8 34 rfl) (by decide) ?_
    refine j_iadd (pc := 640) (jd k_Law_law_8 35 rfl) ?_
    refine j_xald (pc := 641) (f := G.2.2.2) (L := G.2.2.1) 2 (jd k_Law_law_8 36 rfl) rfl (hin 1 (by decide)) ?_
    refine j_aload_n (pc := 642) 3 (jd k_Law_law_8 37 rfl) rfl ?_
    refine jq_SW (pc := 643) (d := 9) (mc := 601024) (ms := 7293034) (k := k) (n := n) (st := []) (w2 := lwW ad ae G s o (vp_updL L (0 : Int32).toNatClampNeg v.toInt64) sg) (jConW.frR (d_complaints_ok ad G (lwx G i 1) s o L  v h1) (mkR ae G sg)) LW_Law_complaints w869 w870 (jd k_Law_law_8 38 rfl) rfl (by decide) (by decide) (by omega) (by omega) rfl rfl rfl ?_
    refine j_istore (pc := 646) (lv' := [(0, .ref (G.2.1 2)), (1, .ref (ad 0)), (2, .ref (ae 0)), (3, .ref o), (4, .int i), (5, .int 0)]) (jd k_Law_law_8 39 rfl) rfl (Nat.le_of_ble_eq_true rfl) rfl ?_
    refine j_aload_n (pc := 648) 2 (jd k_Law_law_9 0 rfl) rfl ?_
    refine j_aload_n (pc := 649) 0 (jd k_Law_law_9 1 rfl) rfl ?_
    refine j_iload (pc := 650) 4 (jd k_Law_law_9 2 rfl) rfl ?_
    refine j_iconst (pc := 652) (v := 1) (jd k_Law_law_9 3 rfl) (by decide) ?_
    refine j_iadd (pc := 653) (jd k_Law_law_9 4 rfl) ?_
    refine j_xald (pc := 654) (f := G.2.2.2) (L := G.2.2.1) 2 (jd k_Law_law_9 5 rfl) rfl (hin 1 (by decide)) ?_
    refine jc_V (pc := 655) (d := 9) (mc := 601024) (ms := 7293034) (k := k + 1) (n := n + 6) (st := []) (w := lwW ad ae G s o (vp_updL L (0 : Int32).toNatClampNeg v.toInt64) g2) (ws := lwW ad ae G s o (vp_updL L (0 : Int32).toNatClampNeg v.toInt64) sg) (jCon.post (jCon.frL (c_Mod_complaints ae G (lwx G i 1) sg (v, g2) h2) (mkC ad G s ++ [(o, .inl (G.1 2, 1, .inr (.inl (vp_updL L (0 : Int32).toNatClampNeg v.toInt64))))])) (fun r w h => (jFrL.eq h : jEq (some (.int v)) (lwW ad ae G s o (vp_updL L (0 : Int32).toNatClampNeg v.toInt64) g2) r w))) L0_Mod_complaints w1438 w1439 w1440 132 rfl rfl (jd k_Law_law_9 6 rfl) rfl (by decide) (by decide) (by omega) (by omega) rfl rfl ?_
    refine j_istore (pc := 658) (lv' := [(0, .ref (G.2.1 2)), (1, .ref (ad 0)), (2, .ref (ae 0)), (3, .ref o), (4, .int i), (5, .int 0), (6, .int v)]) (jd k_Law_law_9 7 rfl) rfl (Nat.le_of_ble_eq_true rfl) rfl ?_
    refine j_aload_n (pc := 660) 2 (jd k_Law_law_9 8 rfl) rfl ?_
    refine jc_V (pc := 661) (d := 9) (mc := 601024) (ms := 7293034) (k := k + 1) (n := n + 6) (st := []) (w := lwW ad ae G s o (vp_updL L (0 : Int32).toNatClampNeg v.toInt64) g2) (ws := lwW ad ae G s o (vp_updL L (0 : Int32).toNatClampNeg v.toInt64) g2) (jCon.post (jCon.frL (c_Mod_thrown ae G g2 0 h3) (mkC ad G s ++ [(o, .inl (G.1 2, 1, .inr (.inl (vp_updL L (0 : Int32).toNatClampNeg v.toInt64))))])) (fun r w h => (jFrL.eq h : jEq (some (.int 0)) (lwW ad ae G s o (vp_updL L (0 : Int32).toNatClampNeg v.toInt64) g2) r w))) L0_Mod_thrown w1270 w1271 w1272 132 rfl rfl (jd k_Law_law_9 9 rfl) rfl (by decide) (by decide) (by omega) (by omega) rfl rfl ?_
    refine j_iload (pc := 664) 5 (jd k_Law_law_9 10 rfl) rfl ?_
    refine j_icmp_eq (pc := 666) (tgt := 671) (jd k_Law_law_9 11 rfl) rfl (fun h => ?_) (fun h => absurd rfl h)
    refine j_iload (pc := 671) 5 (jd k_Law_law_9 14 rfl) rfl ?_
    refine j_if_ne (pc := 673) (tgt := 688) (jd k_Law_law_9 15 rfl) rfl (fun h => absurd rfl h) (fun h => ?_)
    refine j_aload_n (pc := 676) 3 (jd k_Law_law_9 16 rfl) rfl ?_
    refine j_iconst (pc := 677) (v := 0) (jd k_Law_law_9 17 rfl) (by decide) ?_
    refine j_lald (pc := 678) (f := vp_updL L (0 : Int32).toNatClampNeg v.toInt64) 131 (jd k_Law_law_9 18 rfl) rfl (jin.vp (by decide)) ?_
    rw [vp_updL_at]
    refine j_iload (pc := 679) 6 (jd k_Law_law_9 19 rfl) rfl ?_
    refine j_i2l (pc := 681) (jd k_Law_law_9 20 rfl) ?_
    refine j_lcmp (pc := 682) (jd k_Law_law_9 21 rfl) ?_
    refine j_if_eq (pc := 683) (tgt := 688) (jd k_Law_law_9 22 rfl) rfl (fun h => ?_) (fun h => absurd (lg_cmp_self _) h)
    refine j_goto (pc := 688) (tgt := 1197) (jd k_Law_law_9 25 rfl) rfl ?_
    refine j_pick (lv' := [(0, .ref (G.2.1 2)), (1, .ref (ad 0)), (2, .ref (ae 0)), (3, .ref o), (4, .int i)]) [0, 1, 2, 3, 4] rfl ?_
    exact j_widen (k := k + 1) (n := n + 6) (by omega) (by omega) (kk s (vp_updL L (0 : Int32).toNatClampNeg v.toInt64) g2 hR)
  · cases List.mem_singleton.mp hm
    refine j_aload_n (pc := 635) 1 (jd k_Law_law_8 31 rfl) rfl ?_
    refine j_aload_n (pc := 636) 0 (jd k_Law_law_8 32 rfl) rfl ?_
    refine j_iload (pc := 637) 4 (jd k_Law_law_8 33 rfl) rfl ?_
    refine j_iconst (pc := 639) (v := 1) (jd k_Law_law_8 34 rfl) (by decide) ?_
    refine j_iadd (pc := 640) (jd k_Law_law_8 35 rfl) ?_
    refine j_xald (pc := 641) (f := G.2.2.2) (L := G.2.2.1) 2 (jd k_Law_law_8 36 rfl) rfl (hin 1 (by decide)) ?_
    refine j_aload_n (pc := 642) 3 (jd k_Law_law_8 37 rfl) rfl ?_
    refine jq_SW (pc := 643) (d := 9) (mc := 601024) (ms := 7293034) (k := k) (n := n) (st := []) (w2 := lwW ad ae G s o L sg) (jConW.frR (d_complaints_IAE ad G (lwx G i 1) s o L  h1) (mkR ae G sg)) LW_Law_complaints w869 w870 (jd k_Law_law_8 38 rfl) rfl (by decide) (by decide) (by omega) (by omega) rfl rfl rfl ?_
    refine j_istore (pc := 646) (lv' := [(0, .ref (G.2.1 2)), (1, .ref (ad 0)), (2, .ref (ae 0)), (3, .ref o), (4, .int i), (5, .int 1)]) (jd k_Law_law_8 39 rfl) rfl (Nat.le_of_ble_eq_true rfl) rfl ?_
    refine j_aload_n (pc := 648) 2 (jd k_Law_law_9 0 rfl) rfl ?_
    refine j_aload_n (pc := 649) 0 (jd k_Law_law_9 1 rfl) rfl ?_
    refine j_iload (pc := 650) 4 (jd k_Law_law_9 2 rfl) rfl ?_
    refine j_iconst (pc := 652) (v := 1) (jd k_Law_law_9 3 rfl) (by decide) ?_
    refine j_iadd (pc := 653) (jd k_Law_law_9 4 rfl) ?_
    refine j_xald (pc := 654) (f := G.2.2.2) (L := G.2.2.1) 2 (jd k_Law_law_9 5 rfl) rfl (hin 1 (by decide)) ?_
    refine jc_V (pc := 655) (d := 9) (mc := 601024) (ms := 7293034) (k := k + 1) (n := n + 6) (st := []) (w := lwW ad ae G s o L g2) (ws := lwW ad ae G s o L sg) (jCon.post (jCon.frL (c_Mod_complaints ae G (lwx G i 1) sg (b, g2) h2) (mkC ad G s ++ [(o, .inl (G.1 2, 1, .inr (.inl (L))))])) (fun r w h => (jFrL.eq h : jEq (some (.int b)) (lwW ad ae G s o L g2) r w))) L0_Mod_complaints w1438 w1439 w1440 132 rfl rfl (jd k_Law_law_9 6 rfl) rfl (by decide) (by decide) (by omega) (by omega) rfl rfl ?_
    refine j_istore (pc := 658) (lv' := [(0, .ref (G.2.1 2)), (1, .ref (ad 0)), (2, .ref (ae 0)), (3, .ref o), (4, .int i), (5, .int 1), (6, .int b)]) (jd k_Law_law_9 7 rfl) rfl (Nat.le_of_ble_eq_true rfl) rfl ?_
    refine j_aload_n (pc := 660) 2 (jd k_Law_law_9 8 rfl) rfl ?_
    refine jc_V (pc := 661) (d := 9) (mc := 601024) (ms := 7293034) (k := k + 1) (n := n + 6) (st := []) (w := lwW ad ae G s o L g2) (ws := lwW ad ae G s o L g2) (jCon.post (jCon.frL (c_Mod_thrown ae G g2 1 h3) (mkC ad G s ++ [(o, .inl (G.1 2, 1, .inr (.inl (L))))])) (fun r w h => (jFrL.eq h : jEq (some (.int 1)) (lwW ad ae G s o L g2) r w))) L0_Mod_thrown w1270 w1271 w1272 132 rfl rfl (jd k_Law_law_9 9 rfl) rfl (by decide) (by decide) (by omega) (by omega) rfl rfl ?_
    refine j_iload (pc := 664) 5 (jd k_Law_law_9 10 rfl) rfl ?_
    refine j_icmp_eq (pc := 666) (tgt := 671) (jd k_Law_law_9 11 rfl) rfl (fun h => ?_) (fun h => absurd rfl h)
    refine j_iload (pc := 671) 5 (jd k_Law_law_9 14 rfl) rfl ?_
    refine j_if_ne (pc := 673) (tgt := 688) (jd k_Law_law_9 15 rfl) rfl (fun h => ?_) (fun h => absurd h (by decide))
    refine j_goto (pc := 688) (tgt := 1197) (jd k_Law_law_9 25 rfl) rfl ?_
    refine j_pick (lv' := [(0, .ref (G.2.1 2)), (1, .ref (ad 0)), (2, .ref (ae 0)), (3, .ref o), (4, .int i)]) [0, 1, 2, 3, 4] rfl ?_
    exact j_widen (k := k + 1) (n := n + 6) (by omega) (by omega) (kk s (L) g2 hR)

set_option maxRecDepth 20000 in
theorem case_received {ad ae : Nat → Nat} {G : jG} {P : jR → va_W → Prop} {i : Int32} {s : jU} {o : Nat} {L : Nat → Int64} {sg : jS} {k n : Nat} (Rel : jU → jS → Prop) (hin : lwIn G i) (H : FaP Rel [("java/lang/IllegalArgumentException", 1)] s (f_SR_received (lwx G i 1) (lwx G i 2) (lwx G i 3) s) (f_Mod_received (lwx G i 1) (lwx G i 2) (lwx G i 3) sg)) (hk : k + 4 ≤ 601024) (hn : n + 24 ≤ 7293034) (kk : ∀ (s2 : jU) (L2 : Nat → Int64) (g2 : jS), Rel s2 g2 → J G m_Law_law 9 601024 7293034 P 1197 [(0, .ref (G.2.1 2)), (1, .ref (ad 0)), (2, .ref (ae 0)), (3, .ref o), (4, .int i)] [] (lwW ad ae G s2 o L2 g2) (k + 4) (n + 24)) : J G m_Law_law 9 601024 7293034 P 691 [(0, .ref (G.2.1 2)), (1, .ref (ad 0)), (2, .ref (ae 0)), (3, .ref o), (4, .int i)] [] (lwW ad ae G s o L sg) k n := by
  rcases H with ⟨v, g2, h1, h2, h3, hR⟩ | ⟨E, c, b, g2, hm, h1, h2, h3, hR⟩
  · refine j_aload_n (pc := 691) 1 (jd k_Law_law_9 26 rfl) rfl ?_
    refine j_aload_n (pc := 692) 0 (jd k_Law_law_9 27 rfl) rfl ?_
    refine j_iload (pc := 693) 4 (jd k_Law_law_9 28 rfl) rfl ?_
    refine j_iconst (pc := 695) (v := 1) (jd k_Law_law_9 29 rfl) (by decide) ?_
    refine j_iadd (pc := 696) (jd k_Law_law_9 30 rfl) ?_
    refine j_xald (pc := 697) (f := G.2.2.2) (L := G.2.2.1) 2 (jd k_Law_law_9 31 rfl) rfl (hin 1 (by decide)) ?_
    refine j_aload_n (pc := 698) 0 (jd k_Law_law_9 32 rfl) rfl ?_
    refine j_iload (pc := 699) 4 (jd k_Law_law_9 33 rfl) rfl ?_
    refine j_iconst (pc := 701) (v := 2) (jd k_Law_law_9 34 rfl) (by decide) ?_
    refine j_iadd (pc := 702) (jd k_Law_law_9 35 rfl) ?_
    refine j_xald (pc := 703) (f := G.2.2.2) (L := G.2.2.1) 2 (jd k_Law_law_9 36 rfl) rfl (hin 2 (by decide)) ?_
    refine j_aload_n (pc := 704) 0 (jd k_Law_law_9 37 rfl) rfl ?_
    refine j_iload (pc := 705) 4 (jd k_Law_law_9 38 rfl) rfl ?_
    refine j_iconst (pc := 707) (v := 3) (jd k_Law_law_9 39 rfl) (by decide) ?_
    refine j_iadd (pc := 708) (jd k_Law_law_10 0 rfl) ?_
    refine j_xald (pc := 709) (f := G.2.2.2) (L := G.2.2.1) 2 (jd k_Law_law_10 1 rfl) rfl (hin 3 (by decide)) ?_
    refine j_aload_n (pc := 710) 3 (jd k_Law_law_10 2 rfl) rfl ?_
    refine jq_SW (pc := 711) (d := 9) (mc := 601024) (ms := 7293034) (k := k) (n := n) (st := []) (w2 := lwW ad ae G s o (vp_updL L (0 : Int32).toNatClampNeg v.toInt64) sg) (jConW.frR (d_received_ok ad G (lwx G i 1) (lwx G i 2) (lwx G i 3) s o L  v h1) (mkR ae G sg)) LW_Law_received w880 w881 (jd k_Law_law_10 3 rfl) rfl (by decide) (by decide) (by omega) (by omega) rfl rfl rfl ?_
    refine j_istore (pc := 714) (lv' := [(0, .ref (G.2.1 2)), (1, .ref (ad 0)), (2, .ref (ae 0)), (3, .ref o), (4, .int i), (5, .int 0)]) (jd k_Law_law_10 4 rfl) rfl (Nat.le_of_ble_eq_true rfl) rfl ?_
    refine j_aload_n (pc := 716) 2 (jd k_Law_law_10 5 rfl) rfl ?_
    refine j_aload_n (pc := 717) 0 (jd k_Law_law_10 6 rfl) rfl ?_
    refine j_iload (pc := 718) 4 (jd k_Law_law_10 7 rfl) rfl ?_
    refine j_iconst (pc := 720) (v := 1) (jd k_Law_law_10 8 rfl) (by decide) ?_
    refine j_iadd (pc := 721) (jd k_Law_law_10 9 rfl) ?_
    refine j_xald (pc := 722) (f := G.2.2.2) (L := G.2.2.1) 2 (jd k_Law_law_10 10 rfl) rfl (hin 1 (by decide)) ?_
    refine j_aload_n (pc := 723) 0 (jd k_Law_law_10 11 rfl) rfl ?_
    refine j_iload (pc := 724) 4 (jd k_Law_law_10 12 rfl) rfl ?_
    refine j_iconst (pc := 726) (v := 2) (jd k_Law_law_10 13 rfl) (by decide) ?_
    refine j_iadd (pc := 727) (jd k_Law_law_10 14 rfl) ?_
    refine j_xald (pc := 728) (f := G.2.2.2) (L := G.2.2.1) 2 (jd k_Law_law_10 15 rfl) rfl (hin 2 (by decide)) ?_
    refine j_aload_n (pc := 729) 0 (jd k_Law_law_10 16 rfl) rfl ?_
    refine j_iload (pc := 730) 4 (jd k_Law_law_10 17 rfl) rfl ?_
    refine j_iconst (pc := 732) (v := 3) (jd k_Law_law_10 18 rfl) (by decide) ?_
    refine j_iadd (pc := 733) (jd k_Law_law_10 19 rfl) ?_
    refine j_xald (pc := 734) (f := G.2.2.2) (L := G.2.2.1) 2 (jd k_Law_law_10 20 rfl) rfl (hin 3 (by decide)) ?_
    refine jc_V (pc := 735) (d := 9) (mc := 601024) (ms := 7293034) (k := k + 3) (n := n + 18) (st := []) (w := lwW ad ae G s o (vp_updL L (0 : Int32).toNatClampNeg v.toInt64) g2) (ws := lwW ad ae G s o (vp_updL L (0 : Int32).toNatClampNeg v.toInt64) sg) (jCon.post (jCon.frL (c_Mod_received ae G (lwx G i 1) (lwx G i 2) (lwx G i 3) sg (v, g2) h2) (mkC ad G s ++ [(o, .inl (G.1 2, 1, .inr (.inl (vp_updL L (0 : Int32).toNatClampNeg v.toInt64))))])) (fun r w h => (jFrL.eq h : jEq (some (.int v)) (lwW ad ae G s o (vp_updL L (0 : Int32).toNatClampNeg v.toInt64) g2) r w))) L0_Mod_received w1442 w1443 w1444 132 rfl rfl (jd k_Law_law_10 21 rfl) rfl (by decide) (by decide) (by omega) (by omega) rfl rfl ?_
    refine j_istore (pc := 738) (lv' := [(0, .ref (G.2.1 2)), (1, .ref (ad 0)), (2, .ref (ae 0)), (3, .ref o), (4, .int i), (5, .int 0), (6, .int v)]) (jd k_Law_law_10 22 rfl) rfl (Nat.le_of_ble_eq_true rfl) rfl ?_
    refine j_aload_n (pc := 740) 2 (jd k_Law_law_10 23 rfl) rfl ?_
    refine jc_V (pc := 741) (d := 9) (mc := 601024) (ms := 7293034) (k := k + 3) (n := n + 18) (st := []) (w := lwW ad ae G s o (vp_updL L (0 : Int32).toNatClampNeg v.toInt64) g2) (ws := lwW ad ae G s o (vp_updL L (0 : Int32).toNatClampNeg v.toInt64) g2) (jCon.post (jCon.frL (c_Mod_thrown ae G g2 0 h3) (mkC ad G s ++ [(o, .inl (G.1 2, 1, .inr (.inl (vp_updL L (0 : Int32).toNatClampNeg v.toInt64))))])) (fun r w h => (jFrL.eq h : jEq (some (.int 0)) (lwW ad ae G s o (vp_updL L (0 : Int32).toNatClampNeg v.toInt64) g2) r w))) L0_Mod_thrown w1270 w1271 w1272 132 rfl rfl (jd k_Law_law_10 24 rfl) rfl (by decide) (by decide) (by omega) (by omega) rfl rfl ?_
    refine j_iload (pc := 744) 5 (jd k_Law_law_10 25 rfl) rfl ?_
    refine j_icmp_eq (pc := 746) (tgt := 751) (jd k_Law_law_10 26 rfl) rfl (fun h => ?_) (fun h => absurd rfl h)
    refine j_iload (pc := 751) 5 (jd k_Law_law_10 29 rfl) rfl ?_
    refine j_if_ne (pc := 753) (tgt := 768) (jd k_Law_law_10 30 rfl) rfl (fun h => absurd rfl h) (fun h => ?_)
    refine j_aload_n (pc := 756) 3 (jd k_Law_law_10 31 rfl) rfl ?_
    refine j_iconst (pc := 757) (v := 0) (jd k_Law_law_10 32 rfl) (by decide) ?_
    refine j_lald (pc := 758) (f := vp_updL L (0 : Int32).toNatClampNeg v.toInt64) 131 (jd k_Law_law_10 33 rfl) rfl (jin.vp (by decide)) ?_
    rw [vp_updL_at]
    refine j_iload (pc := 759) 6 (jd k_Law_law_10 34 rfl) rfl ?_
    refine j_i2l (pc := 761) (jd k_Law_law_10 35 rfl) ?_
    refine j_lcmp (pc := 762) (jd k_Law_law_10 36 rfl) ?_
    refine j_if_eq (pc := 763) (tgt := 768) (jd k_Law_law_10 37 rfl) rfl (fun h => ?_) (fun h => absurd (lg_cmp_self _) h)
    refine j_goto (pc := 768) (tgt := 1197) (jd k_Law_law_11 0 rfl) rfl ?_
    refine j_pick (lv' := [(0, .ref (G.2.1 2)), (1, .ref (ad 0)), (2, .ref (ae 0)), (3, .ref o), (4, .int i)]) [0, 1, 2, 3, 4] rfl ?_
    exact j_widen (k := k + 3) (n := n + 18) (by omega) (by omega) (kk s (vp_updL L (0 : Int32).toNatClampNeg v.toInt64) g2 hR)
  · cases List.mem_singleton.mp hm
    refine j_aload_n (pc := 691) 1 (jd k_Law_law_9 26 rfl) rfl ?_
    refine j_aload_n (pc := 692) 0 (jd k_Law_law_9 27 rfl) rfl ?_
    refine j_iload (pc := 693) 4 (jd k_Law_law_9 28 rfl) rfl ?_
    refine j_iconst (pc := 695) (v := 1) (jd k_Law_law_9 29 rfl) (by decide) ?_
    refine j_iadd (pc := 696) (jd k_Law_law_9 30 rfl) ?_
    refine j_xald (pc := 697) (f := G.2.2.2) (L := G.2.2.1) 2 (jd k_Law_law_9 31 rfl) rfl (hin 1 (by decide)) ?_
    refine j_aload_n (pc := 698) 0 (jd k_Law_law_9 32 rfl) rfl ?_
    refine j_iload (pc := 699) 4 (jd k_Law_law_9 33 rfl) rfl ?_
    refine j_iconst (pc := 701) (v := 2) (jd k_Law_law_9 34 rfl) (by decide) ?_
    refine j_iadd (pc := 702) (jd k_Law_law_9 35 rfl) ?_
    refine j_xald (pc := 703) (f := G.2.2.2) (L := G.2.2.1) 2 (jd k_Law_law_9 36 rfl) rfl (hin 2 (by decide)) ?_
    refine j_aload_n (pc := 704) 0 (jd k_Law_law_9 37 rfl) rfl ?_
    refine j_iload (pc := 705) 4 (jd k_Law_law_9 38 rfl) rfl ?_
    refine j_iconst (pc := 707) (v := 3) (jd k_Law_law_9 39 rfl) (by decide) ?_
    refine j_iadd (pc := 708) (jd k_Law_law_10 0 rfl) ?_
    refine j_xald (pc := 709) (f := G.2.2.2) (L := G.2.2.1) 2 (jd k_Law_law_10 1 rfl) rfl (hin 3 (by decide)) ?_
    refine j_aload_n (pc := 710) 3 (jd k_Law_law_10 2 rfl) rfl ?_
    refine jq_SW (pc := 711) (d := 9) (mc := 601024) (ms := 7293034) (k := k) (n := n) (st := []) (w2 := lwW ad ae G s o L sg) (jConW.frR (d_received_IAE ad G (lwx G i 1) (lwx G i 2) (lwx G i 3) s o L  h1) (mkR ae G sg)) LW_Law_received w880 w881 (jd k_Law_law_10 3 rfl) rfl (by decide) (by decide) (by omega) (by omega) rfl rfl rfl ?_
    refine j_istore (pc := 714) (lv' := [(0, .ref (G.2.1 2)), (1, .ref (ad 0)), (2, .ref (ae 0)), (3, .ref o), (4, .int i), (5, .int 1)]) (jd k_Law_law_10 4 rfl) rfl (Nat.le_of_ble_eq_true rfl) rfl ?_
    refine j_aload_n (pc := 716) 2 (jd k_Law_law_10 5 rfl) rfl ?_
    refine j_aload_n (pc := 717) 0 (jd k_Law_law_10 6 rfl) rfl ?_
    refine j_iload (pc := 718) 4 (jd k_Law_law_10 7 rfl) rfl ?_
    refine j_iconst (pc := 720) (v := 1) (jd k_Law_law_10 8 rfl) (by decide) ?_
    refine j_iadd (pc := 721) (jd k_Law_law_10 9 rfl) ?_
    refine j_xald (pc := 722) (f := G.2.2.2) (L := G.2.2.1) 2 (jd k_Law_law_10 10 rfl) rfl (hin 1 (by decide)) ?_
    refine j_aload_n (pc := 723) 0 (jd k_Law_law_10 11 rfl) rfl ?_
    refine j_iload (pc := 724) 4 (jd k_Law_law_10 12 rfl) rfl ?_
    refine j_iconst (pc := 726) (v := 2) (jd k_Law_law_10 13 rfl) (by decide) ?_
    refine j_iadd (pc := 727) (jd k_Law_law_10 14 rfl) ?_
    refine j_xald (pc := 728) (f := G.2.2.2) (L := G.2.2.1) 2 (jd k_Law_law_10 15 rfl) rfl (hin 2 (by decide)) ?_
    refine j_aload_n (pc := 729) 0 (jd k_Law_law_10 16 rfl) rfl ?_
    refine j_iload (pc := 730) 4 (jd k_Law_law_10 17 rfl) rfl ?_
    refine j_iconst (pc := 732) (v := 3) (jd k_Law_law_10 18 rfl) (by decide) ?_
    refine j_iadd (pc := 733) (jd k_Law_law_10 19 rfl) ?_
    refine j_xald (pc := 734) (f := G.2.2.2) (L := G.2.2.1) 2 (jd k_Law_law_10 20 rfl) rfl (hin 3 (by decide)) ?_
    refine jc_V (pc := 735) (d := 9) (mc := 601024) (ms := 7293034) (k := k + 3) (n := n + 18) (st := []) (w := lwW ad ae G s o L g2) (ws := lwW ad ae G s o L sg) (jCon.post (jCon.frL (c_Mod_received ae G (lwx G i 1) (lwx G i 2) (lwx G i 3) sg (b, g2) h2) (mkC ad G s ++ [(o, .inl (G.1 2, 1, .inr (.inl (L))))])) (fun r w h => (jFrL.eq h : jEq (some (.int b)) (lwW ad ae G s o L g2) r w))) L0_Mod_received w1442 w1443 w1444 132 rfl rfl (jd k_Law_law_10 21 rfl) rfl (by decide) (by decide) (by omega) (by omega) rfl rfl ?_
    refine j_istore (pc := 738) (lv' := [(0, .ref (G.2.1 2)), (1, .ref (ad 0)), (2, .ref (ae 0)), (3, .ref o), (4, .int i), (5, .int 1), (6, .int b)]) (jd k_Law_law_10 22 rfl) rfl (Nat.le_of_ble_eq_true rfl) rfl ?_
    refine j_aload_n (pc := 740) 2 (jd k_Law_law_10 23 rfl) rfl ?_
    refine jc_V (pc := 741) (d := 9) (mc := 601024) (ms := 7293034) (k := k + 3) (n := n + 18) (st := []) (w := lwW ad ae G s o L g2) (ws := lwW ad ae G s o L g2) (jCon.post (jCon.frL (c_Mod_thrown ae G g2 1 h3) (mkC ad G s ++ [(o, .inl (G.1 2, 1, .inr (.inl (L))))])) (fun r w h => (jFrL.eq h : jEq (some (.int 1)) (lwW ad ae G s o L g2) r w))) L0_Mod_thrown w1270 w1271 w1272 132 rfl rfl (jd k_Law_law_10 24 rfl) rfl (by decide) (by decide) (by omega) (by omega) rfl rfl ?_
    refine j_iload (pc := 744) 5 (jd k_Law_law_10 25 rfl) rfl ?_
    refine j_icmp_eq (pc := 746) (tgt := 751) (jd k_Law_law_10 26 rfl) rfl (fun h => ?_) (fun h => absurd rfl h)
    refine j_iload (pc := 751) 5 (jd k_Law_law_10 29 rfl) rfl ?_
    refine j_if_ne (pc := 753) (tgt := 768) (jd k_Law_law_10 30 rfl) rfl (fun h => ?_) (fun h => absurd h (by decide))
    refine j_goto (pc := 768) (tgt := 1197) (jd k_Law_law_11 0 rfl) rfl ?_
    refine j_pick (lv' := [(0, .ref (G.2.1 2)), (1, .ref (ad 0)), (2, .ref (ae 0)), (3, .ref o), (4, .int i)]) [0, 1, 2, 3, 4] rfl ?_
    exact j_widen (k := k + 3) (n := n + 18) (by omega) (by omega) (kk s (L) g2 hR)

set_option maxRecDepth 20000 in
theorem case_commitment {ad ae : Nat → Nat} {G : jG} {P : jR → va_W → Prop} {i : Int32} {s : jU} {o : Nat} {L : Nat → Int64} {sg : jS} {k n : Nat} (Rel : jU → jS → Prop) (hin : lwIn G i) (H : FaP Rel [("java/lang/IllegalArgumentException", 1)] s (f_SR_commitment (lwx G i 1) (lwx G i 2) (lwx G i 3) s) (f_Mod_commitment (lwx G i 1) (lwx G i 2) (lwx G i 3) sg)) (hk : k + 4 ≤ 601024) (hn : n + 24 ≤ 7293034) (kk : ∀ (s2 : jU) (L2 : Nat → Int64) (g2 : jS), Rel s2 g2 → J G m_Law_law 9 601024 7293034 P 1197 [(0, .ref (G.2.1 2)), (1, .ref (ad 0)), (2, .ref (ae 0)), (3, .ref o), (4, .int i)] [] (lwW ad ae G s2 o L2 g2) (k + 4) (n + 24)) : J G m_Law_law 9 601024 7293034 P 771 [(0, .ref (G.2.1 2)), (1, .ref (ad 0)), (2, .ref (ae 0)), (3, .ref o), (4, .int i)] [] (lwW ad ae G s o L sg) k n := by
  rcases H with ⟨v, g2, h1, h2, h3, hR⟩ | ⟨E, c, b, g2, hm, h1, h2, h3, hR⟩
  · refine j_aload_n (pc := 771) 1 (jd k_Law_law_11 1 rfl) rfl ?_
    refine j_aload_n (pc := 772) 0 (jd k_Law_law_11 2 rfl) rfl ?_
    refine j_iload (pc := 773) 4 (jd k_Law_law_11 3 rfl) rfl ?_
    refine j_iconst (pc := 775) (v := 1) (jd k_Law_law_11 4 rfl) (by decide) ?_
    refine j_iadd (pc := 776) (jd k_Law_law_11 5 rfl) ?_
    refine j_xald (pc := 777) (f := G.2.2.2) (L := G.2.2.1) 2 (jd k_Law_law_11 6 rfl) rfl (hin 1 (by decide)) ?_
    refine j_aload_n (pc := 778) 0 (jd k_Law_law_11 7 rfl) rfl ?_
    refine j_iload (pc := 779) 4 (jd k_Law_law_11 8 rfl) rfl ?_
    refine j_iconst (pc := 781) (v := 2) (jd k_Law_law_11 9 rfl) (by decide) ?_
    refine j_iadd (pc := 782) (jd k_Law_law_11 10 rfl) ?_
    refine j_xald (pc := 783) (f := G.2.2.2) (L := G.2.2.1) 2 (jd k_Law_law_11 11 rfl) rfl (hin 2 (by decide)) ?_
    refine j_aload_n (pc := 784) 0 (jd k_Law_law_11 12 rfl) rfl ?_
    refine j_iload (pc := 785) 4 (jd k_Law_law_11 13 rfl) rfl ?_
    refine j_iconst (pc := 787) (v := 3) (jd k_Law_law_11 14 rfl) (by decide) ?_
    refine j_iadd (pc := 788) (jd k_Law_law_11 15 rfl) ?_
    refine j_xald (pc := 789) (f := G.2.2.2) (L := G.2.2.1) 2 (jd k_Law_law_11 16 rfl) rfl (hin 3 (by decide)) ?_
    refine j_aload_n (pc := 790) 3 (jd k_Law_law_11 17 rfl) rfl ?_
    refine jq_SW (pc := 791) (d := 9) (mc := 601024) (ms := 7293034) (k := k) (n := n) (st := []) (w2 := lwW ad ae G s o (vp_updL L (0 : Int32).toNatClampNeg v.toInt64) sg) (jConW.frR (d_commitment_ok ad G (lwx G i 1) (lwx G i 2) (lwx G i 3) s o L  v h1) (mkR ae G sg)) LW_Law_commitment w891 w892 (jd k_Law_law_11 18 rfl) rfl (by decide) (by decide) (by omega) (by omega) rfl rfl rfl ?_
    refine j_istore (pc := 794) (lv' := [(0, .ref (G.2.1 2)), (1, .ref (ad 0)), (2, .ref (ae 0)), (3, .ref o), (4, .int i), (5, .int 0)]) (jd k_Law_law_11 19 rfl) rfl (Nat.le_of_ble_eq_true rfl) rfl ?_
    refine j_aload_n (pc := 796) 2 (jd k_Law_law_11 20 rfl) rfl ?_
    refine j_aload_n (pc := 797) 0 (jd k_Law_law_11 21 rfl) rfl ?_
    refine j_iload (pc := 798) 4 (jd k_Law_law_11 22 rfl) rfl ?_
    refine j_iconst (pc := 800) (v := 1) (jd k_Law_law_11 23 rfl) (by decide) ?_
    refine j_iadd (pc := 801) (jd k_Law_law_11 24 rfl) ?_
    refine j_xald (pc := 802) (f := G.2.2.2) (L := G.2.2.1) 2 (jd k_Law_law_11 25 rfl) rfl (hin 1 (by decide)) ?_
    refine j_aload_n (pc := 803) 0 (jd k_Law_law_11 26 rfl) rfl ?_
    refine j_iload (pc := 804) 4 (jd k_Law_law_11 27 rfl) rfl ?_
    refine j_iconst (pc := 806) (v := 2) (jd k_Law_law_11 28 rfl) (by decide) ?_
    refine j_iadd (pc := 807) (jd k_Law_law_11 29 rfl) ?_
    refine j_xald (pc := 808) (f := G.2.2.2) (L := G.2.2.1) 2 (jd k_Law_law_11 30 rfl) rfl (hin 2 (by decide)) ?_
    refine j_aload_n (pc := 809) 0 (jd k_Law_law_11 31 rfl) rfl ?_
    refine j_iload (pc := 810) 4 (jd k_Law_law_11 32 rfl) rfl ?_
    refine j_iconst (pc := 812) (v := 3) (jd k_Law_law_11 33 rfl) (by decide) ?_
    refine j_iadd (pc := 813) (jd k_Law_law_11 34 rfl) ?_
    refine j_xald (pc := 814) (f := G.2.2.2) (L := G.2.2.1) 2 (jd k_Law_law_11 35 rfl) rfl (hin 3 (by decide)) ?_
    refine jc_V (pc := 815) (d := 9) (mc := 601024) (ms := 7293034) (k := k + 3) (n := n + 18) (st := []) (w := lwW ad ae G s o (vp_updL L (0 : Int32).toNatClampNeg v.toInt64) g2) (ws := lwW ad ae G s o (vp_updL L (0 : Int32).toNatClampNeg v.toInt64) sg) (jCon.post (jCon.frL (c_Mod_commitment ae G (lwx G i 1) (lwx G i 2) (lwx G i 3) sg (v, g2) h2) (mkC ad G s ++ [(o, .inl (G.1 2, 1, .inr (.inl (vp_updL L (0 : Int32).toNatClampNeg v.toInt64))))])) (fun r w h => (jFrL.eq h : jEq (some (.int v)) (lwW ad ae G s o (vp_updL L (0 : Int32).toNatClampNeg v.toInt64) g2) r w))) L0_Mod_commitment w1446 w1447 w1448 132 rfl rfl (jd k_Law_law_11 36 rfl) rfl (by decide) (by decide) (by omega) (by omega) rfl rfl ?_
    refine j_istore (pc := 818) (lv' := [(0, .ref (G.2.1 2)), (1, .ref (ad 0)), (2, .ref (ae 0)), (3, .ref o), (4, .int i), (5, .int 0), (6, .int v)]) (jd k_Law_law_11 37 rfl) rfl (Nat.le_of_ble_eq_true rfl) rfl ?_
    refine j_aload_n (pc := 820) 2 (jd k_Law_law_11 38 rfl) rfl ?_
    refine jc_V (pc := 821) (d := 9) (mc := 601024) (ms := 7293034) (k := k + 3) (n := n + 18) (st := []) (w := lwW ad ae G s o (vp_updL L (0 : Int32).toNatClampNeg v.toInt64) g2) (ws := lwW ad ae G s o (vp_updL L (0 : Int32).toNatClampNeg v.toInt64) g2) (jCon.post (jCon.frL (c_Mod_thrown ae G g2 0 h3) (mkC ad G s ++ [(o, .inl (G.1 2, 1, .inr (.inl (vp_updL L (0 : Int32).toNatClampNeg v.toInt64))))])) (fun r w h => (jFrL.eq h : jEq (some (.int 0)) (lwW ad ae G s o (vp_updL L (0 : Int32).toNatClampNeg v.toInt64) g2) r w))) L0_Mod_thrown w1270 w1271 w1272 132 rfl rfl (jd k_Law_law_11 39 rfl) rfl (by decide) (by decide) (by omega) (by omega) rfl rfl ?_
    refine j_iload (pc := 824) 5 (jd k_Law_law_12 0 rfl) rfl ?_
    refine j_icmp_eq (pc := 826) (tgt := 831) (jd k_Law_law_12 1 rfl) rfl (fun h => ?_) (fun h => absurd rfl h)
    refine j_iload (pc := 831) 5 (jd k_Law_law_12 4 rfl) rfl ?_
    refine j_if_ne (pc := 833) (tgt := 848) (jd k_Law_law_12 5 rfl) rfl (fun h => absurd rfl h) (fun h => ?_)
    refine j_aload_n (pc := 836) 3 (jd k_Law_law_12 6 rfl) rfl ?_
    refine j_iconst (pc := 837) (v := 0) (jd k_Law_law_12 7 rfl) (by decide) ?_
    refine j_lald (pc := 838) (f := vp_updL L (0 : Int32).toNatClampNeg v.toInt64) 131 (jd k_Law_law_12 8 rfl) rfl (jin.vp (by decide)) ?_
    rw [vp_updL_at]
    refine j_iload (pc := 839) 6 (jd k_Law_law_12 9 rfl) rfl ?_
    refine j_i2l (pc := 841) (jd k_Law_law_12 10 rfl) ?_
    refine j_lcmp (pc := 842) (jd k_Law_law_12 11 rfl) ?_
    refine j_if_eq (pc := 843) (tgt := 848) (jd k_Law_law_12 12 rfl) rfl (fun h => ?_) (fun h => absurd (lg_cmp_self _) h)
    refine j_goto (pc := 848) (tgt := 1197) (jd k_Law_law_12 15 rfl) rfl ?_
    refine j_pick (lv' := [(0, .ref (G.2.1 2)), (1, .ref (ad 0)), (2, .ref (ae 0)), (3, .ref o), (4, .int i)]) [0, 1, 2, 3, 4] rfl ?_
    exact j_widen (k := k + 3) (n := n + 18) (by omega) (by omega) (kk s (vp_updL L (0 : Int32).toNatClampNeg v.toInt64) g2 hR)
  · cases List.mem_singleton.mp hm
    refine j_aload_n (pc := 771) 1 (jd k_Law_law_11 1 rfl) rfl ?_
    refine j_aload_n (pc := 772) 0 (jd k_Law_law_11 2 rfl) rfl ?_
    refine j_iload (pc := 773) 4 (jd k_Law_law_11 3 rfl) rfl ?_
    refine j_iconst (pc := 775) (v := 1) (jd k_Law_law_11 4 rfl) (by decide) ?_
    refine j_iadd (pc := 776) (jd k_Law_law_11 5 rfl) ?_
    refine j_xald (pc := 777) (f := G.2.2.2) (L := G.2.2.1) 2 (jd k_Law_law_11 6 rfl) rfl (hin 1 (by decide)) ?_
    refine j_aload_n (pc := 778) 0 (jd k_Law_law_11 7 rfl) rfl ?_
    refine j_iload (pc := 779) 4 (jd k_Law_law_11 8 rfl) rfl ?_
    refine j_iconst (pc := 781) (v := 2) (jd k_Law_law_11 9 rfl) (by decide) ?_
    refine j_iadd (pc := 782) (jd k_Law_law_11 10 rfl) ?_
    refine j_xald (pc := 783) (f := G.2.2.2) (L := G.2.2.1) 2 (jd k_Law_law_11 11 rfl) rfl (hin 2 (by decide)) ?_
    refine j_aload_n (pc := 784) 0 (jd k_Law_law_11 12 rfl) rfl ?_
    refine j_iload (pc := 785) 4 (jd k_Law_law_11 13 rfl) rfl ?_
    refine j_iconst (pc := 787) (v := 3) (jd k_Law_law_11 14 rfl) (by decide) ?_
    refine j_iadd (pc := 788) (jd k_Law_law_11 15 rfl) ?_
    refine j_xald (pc := 789) (f := G.2.2.2) (L := G.2.2.1) 2 (jd k_Law_law_11 16 rfl) rfl (hin 3 (by decide)) ?_
    refine j_aload_n (pc := 790) 3 (jd k_Law_law_11 17 rfl) rfl ?_
    refine jq_SW (pc := 791) (d := 9) (mc := 601024) (ms := 7293034) (k := k) (n := n) (st := []) (w2 := lwW ad ae G s o L sg) (jConW.frR (d_commitment_IAE ad G (lwx G i 1) (lwx G i 2) (lwx G i 3) s o L  h1) (mkR ae G sg)) LW_Law_commitment w891 w892 (jd k_Law_law_11 18 rfl) rfl (by decide) (by decide) (by omega) (by omega) rfl rfl rfl ?_
    refine j_istore (pc := 794) (lv' := [(0, .ref (G.2.1 2)), (1, .ref (ad 0)), (2, .ref (ae 0)), (3, .ref o), (4, .int i), (5, .int 1)]) (jd k_Law_law_11 19 rfl) rfl (Nat.le_of_ble_eq_true rfl) rfl ?_
    refine j_aload_n (pc := 796) 2 (jd k_Law_law_11 20 rfl) rfl ?_
    refine j_aload_n (pc := 797) 0 (jd k_Law_law_11 21 rfl) rfl ?_
    refine j_iload (pc := 798) 4 (jd k_Law_law_11 22 rfl) rfl ?_
    refine j_iconst (pc := 800) (v := 1) (jd k_Law_law_11 23 rfl) (by decide) ?_
    refine j_iadd (pc := 801) (jd k_Law_law_11 24 rfl) ?_
    refine j_xald (pc := 802) (f := G.2.2.2) (L := G.2.2.1) 2 (jd k_Law_law_11 25 rfl) rfl (hin 1 (by decide)) ?_
    refine j_aload_n (pc := 803) 0 (jd k_Law_law_11 26 rfl) rfl ?_
    refine j_iload (pc := 804) 4 (jd k_Law_law_11 27 rfl) rfl ?_
    refine j_iconst (pc := 806) (v := 2) (jd k_Law_law_11 28 rfl) (by decide) ?_
    refine j_iadd (pc := 807) (jd k_Law_law_11 29 rfl) ?_
    refine j_xald (pc := 808) (f := G.2.2.2) (L := G.2.2.1) 2 (jd k_Law_law_11 30 rfl) rfl (hin 2 (by decide)) ?_
    refine j_aload_n (pc := 809) 0 (jd k_Law_law_11 31 rfl) rfl ?_
    refine j_iload (pc := 810) 4 (jd k_Law_law_11 32 rfl) rfl ?_
    refine j_iconst (pc := 812) (v := 3) (jd k_Law_law_11 33 rfl) (by decide) ?_
    refine j_iadd (pc := 813) (jd k_Law_law_11 34 rfl) ?_
    refine j_xald (pc := 814) (f := G.2.2.2) (L := G.2.2.1) 2 (jd k_Law_law_11 35 rfl) rfl (hin 3 (by decide)) ?_
    refine jc_V (pc := 815) (d := 9) (mc := 601024) (ms := 7293034) (k := k + 3) (n := n + 18) (st := []) (w := lwW ad ae G s o L g2) (ws := lwW ad ae G s o L sg) (jCon.post (jCon.frL (c_Mod_commitment ae G (lwx G i 1) (lwx G i 2) (lwx G i 3) sg (b, g2) h2) (mkC ad G s ++ [(o, .inl (G.1 2, 1, .inr (.inl (L))))])) (fun r w h => (jFrL.eq h : jEq (some (.int b)) (lwW ad ae G s o L g2) r w))) L0_Mod_commitment w1446 w1447 w1448 132 rfl rfl (jd k_Law_law_11 36 rfl) rfl (by decide) (by decide) (by omega) (by omega) rfl rfl ?_
    refine j_istore (pc := 818) (lv' := [(0, .ref (G.2.1 2)), (1, .ref (ad 0)), (2, .ref (ae 0)), (3, .ref o), (4, .int i), (5, .int 1), (6, .int b)]) (jd k_Law_law_11 37 rfl) rfl (Nat.le_of_ble_eq_true rfl) rfl ?_
    refine j_aload_n (pc := 820) 2 (jd k_Law_law_11 38 rfl) rfl ?_
    refine jc_V (pc := 821) (d := 9) (mc := 601024) (ms := 7293034) (k := k + 3) (n := n + 18) (st := []) (w := lwW ad ae G s o L g2) (ws := lwW ad ae G s o L g2) (jCon.post (jCon.frL (c_Mod_thrown ae G g2 1 h3) (mkC ad G s ++ [(o, .inl (G.1 2, 1, .inr (.inl (L))))])) (fun r w h => (jFrL.eq h : jEq (some (.int 1)) (lwW ad ae G s o L g2) r w))) L0_Mod_thrown w1270 w1271 w1272 132 rfl rfl (jd k_Law_law_11 39 rfl) rfl (by decide) (by decide) (by omega) (by omega) rfl rfl ?_
    refine j_iload (pc := 824) 5 (jd k_Law_law_12 0 rfl) rfl ?_
    refine j_icmp_eq (pc := 826) (tgt := 831) (jd k_Law_law_12 1 rfl) rfl (fun h => ?_) (fun h => absurd rfl h)
    refine j_iload (pc := 831) 5 (jd k_Law_law_12 4 rfl) rfl ?_
    refine j_if_ne (pc := 833) (tgt := 848) (jd k_Law_law_12 5 rfl) rfl (fun h => ?_) (fun h => absurd h (by decide))
    refine j_goto (pc := 848) (tgt := 1197) (jd k_Law_law_12 15 rfl) rfl ?_
    refine j_pick (lv' := [(0, .ref (G.2.1 2)), (1, .ref (ad 0)), (2, .ref (ae 0)), (3, .ref o), (4, .int i)]) [0, 1, 2, 3, 4] rfl ?_
    exact j_widen (k := k + 3) (n := n + 18) (by omega) (by omega) (kk s (L) g2 hR)

