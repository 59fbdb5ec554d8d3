set_option maxRecDepth 20000 in
theorem case_share {ad ae : Nat → Nat} {G : jG} {P : jR → va_W → Prop} {i : Int32} {s : jU} {o : Nat} {L : Nat → Int64} {sg : jS} {k n : Nat} (Rel : jU → jS → Prop) (hin : lwIn G i) (H : FaP Rel [("java/lang/IllegalArgumentException", 1)] s (f_SR_share (lwx G i 1) (lwx G i 2) s) (f_Mod_share (lwx G i 1) (lwx G i 2) sg)) (hk : k + 4 ≤ 601024) (hn : n + 24 ≤ 7293034) (kk : ∀ (s2 : jU) (L2 : Nat → Int64) (g2 : jS), Rel s2 g2 → J G m_Law_law 9 601024 7293034 P 1197 [(0, .ref (G.2.1 2)), (1, .ref (ad 0)), (2, .ref (ae 0)), (3, .ref o), (4, .int i)] [] (lwW ad ae G s2 o L2 g2) (k + 4) (n + 24)) : J G m_Law_law 9 601024 7293034 P 851 [(0, .ref (G.2.1 2)), (1, .ref (ad 0)), (2, .ref (ae 0)), (3, .ref o), (4, .int i)] [] (lwW ad ae G s o L sg) k n := by
  rcases H with ⟨v, g2, h1, h2, h3, hR⟩ | ⟨E, c, b, g2, hm, h1, h2, h3, hR⟩
  · refine j_aload_n (pc := 851) 1 (jd k_Law_law_12 16 rfl) rfl ?_
    refine j_aload_n (pc := 852) 0 (jd k_Law_law_12 17 rfl) rfl ?_
    refine j_iload (pc := 853) 4 (jd k_Law_law_12 18 rfl) rfl ?_
    refine j_iconst (pc := 855) (v := 1) (jd k_Law_law_12 19 rfl) (by decide) ?_
    refine j_iadd (pc := 856) (jd k_Law_law_12 20 rfl) ?_
    refine j_xald (pc := 857) (f := G.2.2.2) (L := G.2.2.1) 2 (jd k_Law_law_12 21 rfl) rfl (hin 1 (by decide)) ?_
    refine j_aload_n (pc := 858) 0 (jd k_Law_law_12 22 rfl) rfl ?_
    refine j_iload (pc := 859) 4 (jd k_Law_law_12 23 rfl) rfl ?_
    refine j_iconst (pc := 861) (v := 2) (jd k_Law_law_12 24 rfl) (by decide) ?_
    refine j_iadd (pc := 862) (jd k_Law_law_12 25 rfl) ?_
    refine j_xald (pc := 863) (f := G.2.2.2) (L := G.2.2.1) 2 (jd k_Law_law_12 26 rfl) rfl (hin 2 (by decide)) ?_
    refine j_aload_n (pc := 864) 3 (jd k_Law_law_12 27 rfl) rfl ?_
    refine jq_SW (pc := 865) (d := 9) (mc := 601024) (ms := 7293034) (k := k) (n := n) (st := []) (w2 := lwW ad ae G s o (vp_updL L (0 : Int32).toNatClampNeg v.toInt64) sg) (jConW.frR (d_share_ok ad G (lwx G i 1) (lwx G i 2) s o L  v h1) (mkR ae G sg)) LW_Law_share w902 w903 (jd k_Law_law_12 28 rfl) rfl (by decide) (by decide) (by omega) (by omega) rfl rfl rfl ?_
    refine j_istore (pc := 868) (lv' := [(0, .ref (G.2.1 2)), (1, .ref (ad 0)), (2, .ref (ae 0)), (3, .ref o), (4, .int i), (5, .int 0)]) (jd k_Law_law_12 29 rfl) rfl (Nat.le_of_ble_eq_true rfl) rfl ?_
    refine j_aload_n (pc := 870) 2 (jd k_Law_law_12 30 rfl) rfl ?_
    refine j_aload_n (pc := 871) 0 (jd k_Law_law_12 31 rfl) rfl ?_
    refine j_iload (pc := 872) 4 (jd k_Law_law_12 32 rfl) rfl ?_
    refine j_iconst (pc := 874) (v := 1) (jd k_Law_law_12 33 rfl) (by decide) ?_
    refine j_iadd (pc := 875) (jd k_Law_law_12 34 rfl) ?_
    refine j_xald (pc := 876) (f := G.2.2.2) (L := G.2.2.1) 2 (jd k_Law_law_12 35 rfl) rfl (hin 1 (by decide)) ?_
    refine j_aload_n (pc := 877) 0 (jd k_Law_law_12 36 rfl) rfl ?_
    refine j_iload (pc := 878) 4 (jd k_Law_law_12 37 rfl) rfl ?_
    refine j_iconst (pc := 880) (v := 2) (jd k_Law_law_12 38 rfl) (by decide) ?_
    refine j_iadd (pc := 881) (jd k_Law_law_12 39 rfl) ?_
    refine j_xald (pc := 882) (f := G.2.2.2) (L := G.2.2.1) 2 (jd k_Law_law_13 0 rfl) rfl (hin 2 (by decide)) ?_
    refine jc_V (pc := 883) (d := 9) (mc := 601024) (ms := 7293034) (k := k + 2) (n := n + 12) (st := []) (w := lwW ad ae G s o (vp_updL L (0 : Int32).toNatClampNeg v.toInt64) g2) (ws := lwW ad ae G s o (vp_updL L (0 : Int32).toNatClampNeg v.toInt64) sg) (jCon.post (jCon.frL (c_Mod_share ae G (lwx G i 1) (lwx G i 2) sg (v, g2) h2) (mkC ad G s ++ [(o, .inl (G.1 2, 1, .inr (.inl (vp_updL L (0 : Int32).toNatClampNeg v.toInt64))))])) (fun r w h => (jFrL.eq h : jEq (some (.int v)) (lwW ad ae G s o (vp_updL L (0 : Int32).toNatClampNeg v.toInt64) g2) r w))) L0_Mod_share w1450 w1451 w1452 132 rfl rfl (jd k_Law_law_13 1 rfl) rfl (by decide) (by decide) (by omega) (by omega) rfl rfl ?_
    refine j_istore (pc := 886) (lv' := [(0, .ref (G.2.1 2)), (1, .ref (ad 0)), (2, .ref (ae 0)), (3, .ref o), (4, .int i), (5, .int 0), (6, .int v)]) (jd k_Law_law_13 2 rfl) rfl (Nat.le_of_ble_eq_true rfl) rfl ?_
    refine j_aload_n (pc := 888) 2 (jd k_Law_law_13 3 rfl) rfl ?_
    refine jc_V (pc := 889) (d := 9) (mc := 601024) (ms := 7293034) (k := k + 2) (n := n + 12) (st := []) (w := lwW ad ae G s o (vp_updL L (0 : Int32).toNatClampNeg v.toInt64) g2) (ws := lwW ad ae G s o (vp_updL L (0 : Int32).toNatClampNeg v.toInt64) g2) (jCon.post (jCon.frL (c_Mod_thrown ae G g2 0 h3) (mkC ad G s ++ [(o, .inl (G.1 2, 1, .inr (.inl (vp_updL L (0 : Int32).toNatClampNeg v.toInt64))))])) (fun r w h => (jFrL.eq h : jEq (some (.int 0)) (lwW ad ae G s o (vp_updL L (0 : Int32).toNatClampNeg v.toInt64) g2) r w))) L0_Mod_thrown w1270 w1271 w1272 132 rfl rfl (jd k_Law_law_13 4 rfl) rfl (by decide) (by decide) (by omega) (by omega) rfl rfl ?_
    refine j_iload (pc := 892) 5 (jd k_Law_law_13 5 rfl) rfl ?_
    refine j_icmp_eq (pc := 894) (tgt := 899) (jd k_Law_law_13 6 rfl) rfl (fun h => ?_) (fun h => absurd rfl h)
    refine j_iload (pc := 899) 5 (jd k_Law_law_13 9 rfl) rfl ?_
    refine j_if_ne (pc := 901) (tgt := 916) (jd k_Law_law_13 10 rfl) rfl (fun h => absurd rfl h) (fun h => ?_)
    refine j_aload_n (pc := 904) 3 (jd k_Law_law_13 11 rfl) rfl ?_
    refine j_iconst (pc := 905) (v := 0) (jd k_Law_law_13 12 rfl) (by decide) ?_
    refine j_lald (pc := 906) (f := vp_updL L (0 : Int32).toNatClampNeg v.toInt64) 131 (jd k_Law_law_13 13 rfl) rfl (jin.vp (by decide)) ?_
    rw [vp_updL_at]
    refine j_iload (pc := 907) 6 (jd k_Law_law_13 14 rfl) rfl ?_
    refine j_i2l (pc := 909) (jd k_Law_law_13 15 rfl) ?_
    refine j_lcmp (pc := 910) (jd k_Law_law_13 16 rfl) ?_
    refine j_if_eq (pc := 911) (tgt := 916) (jd k_Law_law_13 17 rfl) rfl (fun h => ?_) (fun h => absurd (lg_cmp_self _) h)
    refine j_goto (pc := 916) (tgt := 1197) (jd k_Law_law_13 20 rfl) rfl ?_
    refine j_pick (lv' := [(0, .ref (G.2.1 2)), (1, .ref (ad 0)), (2, .ref (ae 0)), (3, .ref o), (4, .int i)]) [0, 1, 2, 3, 4] rfl ?_
    exact j_widen (k := k + 2) (n := n + 12) (by omega) (by omega) (kk s (vp_updL L (0 : Int32).toNatClampNeg v.toInt64) g2 hR)
  · cases List.mem_singleton.mp hm
    refine j_aload_n (pc := 851) 1 (jd k_Law_law_12 16 rfl) rfl ?_
    refine j_aload_n (pc := 852) 0 (jd k_Law_law_12 17 rfl) rfl ?_
    refine j_iload (pc := 853) 4 (jd k_Law_law_12 18 rfl) rfl ?_
    refine j_iconst (pc := 855) (v := 1) (jd k_Law_law_12 19 rfl) (by decide) ?_
    refine j_iadd (pc := 856) (jd k_Law_law_12 20 rfl) ?_
    refine j_xald (pc := 857) (f := G.2.2.2) (L := G.2.2.1) 2 (jd k_Law_law_12 21 rfl) rfl (hin 1 (by decide)) ?_
    refine j_aload_n (pc := 858) 0 (jd k_Law_law_12 22 rfl) rfl ?_
    refine j_iload (pc := 859) 4 (jd k_Law_law_12 23 rfl) rfl ?_
    refine j_iconst (pc := 861) (v := 2) (jd k_Law_law_12 24 rfl) (by decide) ?_
    refine j_iadd (pc := 862) (jd k_Law_law_12 25 rfl) ?_
    refine j_xald (pc := 863) (f := G.2.2.2) (L := G.2.2.1) 2 (jd k_Law_law_12 26 rfl) rfl (hin 2 (by decide)) ?_
    refine j_aload_n (pc := 864) 3 (jd k_Law_law_12 27 rfl) rfl ?_
    refine jq_SW (pc := 865) (d := 9) (mc := 601024) (ms := 7293034) (k := k) (n := n) (st := []) (w2 := lwW ad ae G s o L sg) (jConW.frR (d_share_IAE ad G (lwx G i 1) (lwx G i 2) s o L  h1) (mkR ae G sg)) LW_Law_share w902 w903 (jd k_Law_law_12 28 rfl) rfl (by decide) (by decide) (by omega) (by omega) rfl rfl rfl ?_
    refine j_istore (pc := 868) (lv' := [(0, .ref (G.2.1 2)), (1, .ref (ad 0)), (2, .ref (ae 0)), (3, .ref o), (4, .int i), (5, .int 1)]) (jd k_Law_law_12 29 rfl) rfl (Nat.le_of_ble_eq_true rfl) rfl ?_
    refine j_aload_n (pc := 870) 2 (jd k_Law_law_12 30 rfl) rfl ?_
    refine j_aload_n (pc := 871) 0 (jd k_Law_law_12 31 rfl) rfl ?_
    refine j_iload (pc := 872) 4 (jd k_Law_law_12 32 rfl) rfl ?_
    refine j_iconst (pc := 874) (v := 1) (jd k_Law_law_12 33 rfl) (by decide) ?_
    refine j_iadd (pc := 875) (jd k_Law_law_12 34 rfl) ?_
    refine j_xald (pc := 876) (f := G.2.2.2) (L := G.2.2.1) 2 (jd k_Law_law_12 35 rfl) rfl (hin 1 (by decide)) ?_
    refine j_aload_n (pc := 877) 0 (jd k_Law_law_12 36 rfl) rfl ?_
    refine j_iload (pc := 878) 4 (jd k_Law_law_12 37 rfl) rfl ?_
    refine j_iconst (pc := 880) (v := 2) (jd k_Law_law_12 38 rfl) (by decide) ?_
    refine j_iadd (pc := 881) (jd k_Law_law_12 39 rfl) ?_
    refine j_xald (pc := 882) (f := G.2.2.2) (L := G.2.2.1) 2 (jd k_Law_law_13 0 rfl) rfl (hin 2 (by decide)) ?_
    refine jc_V (pc := 883) (d := 9) (mc := 601024) (ms := 7293034) (k := k + 2) (n := n + 12) (st := []) (w := lwW ad ae G s o L g2) (ws := lwW ad ae G s o L sg) (jCon.post (jCon.frL (c_Mod_share ae G (lwx G i 1) (lwx G i 2) sg (b, g2) h2) (mkC ad G s ++ [(o, .inl (G.1 2, 1, .inr (.inl (L))))])) (fun r w h => (jFrL.eq h : jEq (some (.int b)) (lwW ad ae G s o L g2) r w))) L0_Mod_share w1450 w1451 w1452 132 rfl rfl (jd k_Law_law_13 1 rfl) rfl (by decide) (by decide) (by omega) (by omega) rfl rfl ?_
    refine j_istore (pc := 886) (lv' := [(0, .ref (G.2.1 2)), (1, .ref (ad 0)), (2, .ref (ae 0)), (3, .ref o), (4, .int i), (5, .int 1), (6, .int b)]) (jd k_Law_law_13 2 rfl) rfl (Nat.le_of_ble_eq_true rfl) rfl ?_
    refine j_aload_n (pc := 888) 2 (jd k_Law_law_13 3 rfl) rfl ?_
    refine jc_V (pc := 889) (d := 9) (mc := 601024) (ms := 7293034) (k := k + 2) (n := n + 12) (st := []) (w := lwW ad ae G s o L g2) (ws := lwW ad ae G s o L g2) (jCon.post (jCon.frL (c_Mod_thrown ae G g2 1 h3) (mkC ad G s ++ [(o, .inl (G.1 2, 1, .inr (.inl (L))))])) (fun r w h => (jFrL.eq h : jEq (some (.int 1)) (lwW ad ae G s o L g2) r w))) L0_Mod_thrown w1270 w1271 w1272 132 rfl rfl (jd k_Law_law_13 4 rfl) rfl (by decide) (by decide) (by omega) (by omega) rfl rfl ?_
    refine j_iload (pc := 892) 5 (jd k_Law_law_13 5 rfl) rfl ?_
    refine j_icmp_eq (pc := 894) (tgt := 899) (jd k_Law_law_13 6 rfl) rfl (fun h => ?_) (fun h => absurd rfl h)
    refine j_iload (pc := 899) 5 (jd k_Law_law_13 9 rfl) rfl ?_
    refine j_if_ne (pc := 901) (tgt := 916) (jd k_Law_law_13 10 rfl) rfl (fun h => ?_) (fun h => absurd h (by decide))
    refine j_goto (pc := 916) (tgt := 1197) (jd k_Law_law_13 20 rfl) rfl ?_
    refine j_pick (lv' := [(0, .ref (G.2.1 2)), (1, .ref (ad 0)), (2, .ref (ae 0)), (3, .ref o), (4, .int i)]) [0, 1, 2, 3, 4] rfl ?_
    exact j_widen (k := k + 2) (n := n + 12) (by omega) (by omega) (kk s (L) g2 hR)

set_option maxRecDepth 20000 in
theorem case_board {ad ae : Nat → Nat} {G : jG} {P : jR → va_W → Prop} {i : Int32} {s : jU} {o : Nat} {L : Nat → Int64} {sg : jS} {k n : Nat} (Rel : jU → jS → Prop) (hin : lwIn G i) (H : FaQ Rel s (f_SR_board s) (f_Mod_board sg)) (hk : k + 4 ≤ 601024) (hn : n + 24 ≤ 7293034) (kk : ∀ (s2 : jU) (L2 : Nat → Int64) (g2 : jS), Rel s2 g2 → J G m_Law_law 9 601024 7293034 P 1197 [(0, .ref (G.2.1 2)), (1, .ref (ad 0)), (2, .ref (ae 0)), (3, .ref o), (4, .int i)] [] (lwW ad ae G s2 o L2 g2) (k + 4) (n + 24)) : J G m_Law_law 9 601024 7293034 P 919 [(0, .ref (G.2.1 2)), (1, .ref (ad 0)), (2, .ref (ae 0)), (3, .ref o), (4, .int i)] [] (lwW ad ae G s o L sg) k n := by
  obtain ⟨v, g2, h1, h2, hR⟩ := H
  refine j_aload_n (pc := 919) 1 (jd k_Law_law_13 21 rfl) rfl ?_
  refine jc_V (pc := 920) (d := 9) (mc := 601024) (ms := 7293034) (k := k) (n := n) (st := []) (w := lwW ad ae G s o L sg) (ws := lwW ad ae G s o L sg) (jCon.post (jCon.frR (jCon.frR (c_SR_board ad G  s v h1) [(o, .inl (G.1 2, 1, .inr (.inl L)))]) (mkR ae G sg)) (fun r w h => (jFrR.eq (by obtain ⟨w0, e0, h⟩ := h; exact ⟨w0, e0, jFrR.eq h⟩) : jEq (some (.int v)) (lwW ad ae G s o L sg) r w))) L0_SR_board w416 w417 w418 0 rfl rfl (jd k_Law_law_13 22 rfl) rfl (by decide) (by decide) (by omega) (by omega) rfl rfl ?_
  refine j_aload_n (pc := 923) 2 (jd k_Law_law_13 23 rfl) rfl ?_
  refine jc_V (pc := 924) (d := 9) (mc := 601024) (ms := 7293034) (k := k) (n := n) (st := [.int v]) (w := lwW ad ae G s o L g2) (ws := lwW ad ae G s o L sg) (jCon.post (jCon.frL (c_Mod_board ae G  sg (v, g2) h2) (mkC ad G s ++ [(o, .inl (G.1 2, 1, .inr (.inl (L))))])) (fun r w h => (jFrL.eq h : jEq (some (.int v)) (lwW ad ae G s o L g2) r w))) L0_Mod_board w1454 w1455 w1456 132 rfl rfl (jd k_Law_law_13 24 rfl) rfl (by show (1 : Nat) + 0 ≤ 8; decide) (by decide) (by omega) (by omega) rfl rfl ?_
  refine j_icmp_eq (pc := 927) (tgt := 1197) (jd k_Law_law_13 25 rfl) rfl (fun h => ?_) (fun h => absurd rfl h)
  exact j_widen (k := k) (n := n) (by omega) (by omega) (kk s (L) g2 hR)

set_option maxRecDepth 20000 in
theorem case_told {ad ae : Nat → Nat} {G : jG} {P : jR → va_W → Prop} {i : Int32} {s : jU} {o : Nat} {L : Nat → Int64} {sg : jS} {k n : Nat} (Rel : jU → jS → Prop) (hin : lwIn G i) (H : FaP Rel [("java/lang/IndexOutOfBoundsException", 1)] s (f_SR_told (lwx G i 1) s) (f_Mod_told (lwx G i 1) sg)) (hk : k + 4 ≤ 601024) (hn : n + 24 ≤ 7293034) (kk : ∀ (s2 : jU) (L2 : Nat → Int64) (g2 : jS), Rel s2 g2 → J G m_Law_law 9 601024 7293034 P 1197 [(0, .ref (G.2.1 2)), (1, .ref (ad 0)), (2, .ref (ae 0)), (3, .ref o), (4, .int i)] [] (lwW ad ae G s2 o L2 g2) (k + 4) (n + 24)) : J G m_Law_law 9 601024 7293034 P 932 [(0, .ref (G.2.1 2)), (1, .ref (ad 0)), (2, .ref (ae 0)), (3, .ref o), (4, .int i)] [] (lwW ad ae G s o L sg) k n := by
  rcases H with ⟨v, g2, h1, h2, h3, hR⟩ | ⟨E, c, b, g2, hm, h1, h2, h3, hR⟩
  · refine j_aload_n (pc := 932) 1 (jd k_Law_law_13 28 rfl) rfl ?_
    refine j_aload_n (pc := 933) 0 (jd k_Law_law_13 29 rfl) rfl ?_
    refine j_iload (pc := 934) 4 (jd k_Law_law_13 30 rfl) rfl ?_
    refine j_iconst (pc := 936) (v := 1) (jd k_Law_law_13 31 rfl) (by decide) ?_
    refine j_iadd (pc := 937) (jd k_Law_law_13 32 rfl) ?_
    refine j_xald (pc := 938) (f := G.2.2.2) (L := G.2.2.1) 2 (jd k_Law_law_13 33 rfl) rfl (hin 1 (by decide)) ?_
    refine j_aload_n (pc := 939) 3 (jd k_Law_law_13 34 rfl) rfl ?_
    refine jq_SW (pc := 940) (d := 9) (mc := 601024) (ms := 7293034) (k := k) (n := n) (st := []) (w2 := lwW ad ae G s o (vp_updL L (0 : Int32).toNatClampNeg v.toInt64) sg) (jConW.frR (d_told_ok ad G (lwx G i 1) s o L  v h1) (mkR ae G sg)) LW_Law_told w913 w914 (jd k_Law_law_13 35 rfl) rfl (by decide) (by decide) (by omega) (by omega) rfl rfl rfl ?_
    refine j_istore (pc := 943) (lv' := [(0, .ref (G.2.1 2)), (1, .ref (ad 0)), (2, .ref (ae 0)), (3, .ref o), (4, .int i), (5, .int 0)]) (jd k_Law_law_13 36 rfl) rfl (Nat.le_of_ble_eq_true rfl) rfl ?_
    refine j_aload_n (pc := 945) 2 (jd k_Law_law_13 37 rfl) rfl ?_
    refine j_aload_n (pc := 946) 0 (jd k_Law_law_13 38 rfl) rfl ?_
    refine j_iload (pc := 947) 4 (jd k_Law_law_13 39 rfl) rfl ?_
    refine j_iconst (pc := 949) (v := 1) (jd k_Law_law_14 0 rfl) (by decide) ?_
    refine j_iadd (pc := 950) (jd k_Law_law_14 1 rfl) ?_
    refine j_xald (pc := 951) (f := G.2.2.2) (L := G.2.2.1) 2 (jd k_Law_law_14 2 rfl) rfl (hin 1 (by decide)) ?_
    refine jc_V (pc := 952) (d := 9) (mc := 601024) (ms := 7293034) (k := k + 1) (n := n + 6) (st := []) (w := lwW ad ae G s o (vp_updL L (0 : Int32).toNatClampNeg v.toInt64) g2) (ws := lwW ad ae G s o (vp_updL L (0 : Int32).toNatClampNeg v.toInt64) sg) (jCon.post (jCon.frL (c_Mod_told ae G (lwx G i 1) sg (v, g2) h2) (mkC ad G s ++ [(o, .inl (G.1 2, 1, .inr (.inl (vp_updL L (0 : Int32).toNatClampNeg v.toInt64))))])) (fun r w h => (jFrL.eq h : jEq (some (.int v)) (lwW ad ae G s o (vp_updL L (0 : Int32).toNatClampNeg v.toInt64) g2) r w))) L0_Mod_told w1458 w1459 w1460 132 rfl rfl (jd k_Law_law_14 3 rfl) rfl (by decide) (by decide) (by omega) (by omega) rfl rfl ?_
    refine j_istore (pc := 955) (lv' := [(0, .ref (G.2.1 2)), (1, .ref (ad 0)), (2, .ref (ae 0)), (3, .ref o), (4, .int i), (5, .int 0), (6, .int v)]) (jd k_Law_law_14 4 rfl) rfl (Nat.le_of_ble_eq_true rfl) rfl ?_
    refine j_aload_n (pc := 957) 2 (jd k_Law_law_14 5 rfl) rfl ?_
    refine jc_V (pc := 958) (d := 9) (mc := 601024) (ms := 7293034) (k := k + 1) (n := n + 6) (st := []) (w := lwW ad ae G s o (vp_updL L (0 : Int32).toNatClampNeg v.toInt64) g2) (ws := lwW ad ae G s o (vp_updL L (0 : Int32).toNatClampNeg v.toInt64) g2) (jCon.post (jCon.frL (c_Mod_thrown ae G g2 0 h3) (mkC ad G s ++ [(o, .inl (G.1 2, 1, .inr (.inl (vp_updL L (0 : Int32).toNatClampNeg v.toInt64))))])) (fun r w h => (jFrL.eq h : jEq (some (.int 0)) (lwW ad ae G s o (vp_updL L (0 : Int32).toNatClampNeg v.toInt64) g2) r w))) L0_Mod_thrown w1270 w1271 w1272 132 rfl rfl (jd k_Law_law_14 6 rfl) rfl (by decide) (by decide) (by omega) (by omega) rfl rfl ?_
    refine j_iload (pc := 961) 5 (jd k_Law_law_14 7 rfl) rfl ?_
    refine j_icmp_eq (pc := 963) (tgt := 968) (jd k_Law_law_14 8 rfl) rfl (fun h => ?_) (fun h => absurd rfl h)
    refine j_iload (pc := 968) 5 (jd k_Law_law_14 11 rfl) rfl ?_
    refine j_if_ne (pc := 970) (tgt := 985) (jd k_Law_law_14 12 rfl) rfl (fun h => absurd rfl h) (fun h => ?_)
    refine j_aload_n (pc := 973) 3 (jd k_Law_law_14 13 rfl) rfl ?_
    refine j_iconst (pc := 974) (v := 0) (jd k_Law_law_14 14 rfl) (by decide) ?_
    refine j_lald (pc := 975) (f := vp_updL L (0 : Int32).toNatClampNeg v.toInt64) 131 (jd k_Law_law_14 15 rfl) rfl (jin.vp (by decide)) ?_
    rw [vp_updL_at]
    refine j_iload (pc := 976) 6 (jd k_Law_law_14 16 rfl) rfl ?_
    refine j_i2l (pc := 978) (jd k_Law_law_14 17 rfl) ?_
    refine j_lcmp (pc := 979) (jd k_Law_law_14 18 rfl) ?_
    refine j_if_eq (pc := 980) (tgt := 985) (jd k_Law_law_14 19 rfl) rfl (fun h => ?_) (fun h => absurd (lg_cmp_self _) h)
    refine j_goto (pc := 985) (tgt := 1197) (jd k_Law_law_14 22 rfl) rfl ?_
    refine j_pick (lv' := [(0, .ref (G.2.1 2)), (1, .ref (ad 0)), (2, .ref (ae 0)), (3, .ref o), (4, .int i)]) [0, 1, 2, 3, 4] rfl ?_
    exact j_widen (k := k + 1) (n := n + 6) (by omega) (by omega) (kk s (vp_updL L (0 : Int32).toNatClampNeg v.toInt64) g2 hR)
  · cases List.mem_singleton.mp hm
    refine j_aload_n (pc := 932) 1 (jd k_Law_law_13 28 rfl) rfl ?_
    refine j_aload_n (pc := 933) 0 (jd k_Law_law_13 29 rfl) rfl ?_
    refine j_iload (pc := 934) 4 (jd k_Law_law_13 30 rfl) rfl ?_
    refine j_iconst (pc := 936) (v := 1) (jd k_Law_law_13 31 rfl) (by decide) ?_
    refine j_iadd (pc := 937) (jd k_Law_law_13 32 rfl) ?_
    refine j_xald (pc := 938) (f := G.2.2.2) (L := G.2.2.1) 2 (jd k_Law_law_13 33 rfl) rfl (hin 1 (by decide)) ?_
    refine j_aload_n (pc := 939) 3 (jd k_Law_law_13 34 rfl) rfl ?_
    refine jq_SW (pc := 940) (d := 9) (mc := 601024) (ms := 7293034) (k := k) (n := n) (st := []) (w2 := lwW ad ae G s o L sg) (jConW.frR (d_told_IOB ad G (lwx G i 1) s o L  h1) (mkR ae G sg)) LW_Law_told w913 w914 (jd k_Law_law_13 35 rfl) rfl (by decide) (by decide) (by omega) (by omega) rfl rfl rfl ?_
    refine j_istore (pc := 943) (lv' := [(0, .ref (G.2.1 2)), (1, .ref (ad 0)), (2, .ref (ae 0)), (3, .ref o), (4, .int i), (5, .int 1)]) (jd k_Law_law_13 36 rfl) rfl (Nat.le_of_ble_eq_true rfl) rfl ?_
    refine j_aload_n (pc := 945) 2 (jd k_Law_law_13 37 rfl) rfl ?_
    refine j_aload_n (pc := 946) 0 (jd k_Law_law_13 38 rfl) rfl ?_
    refine j_iload (pc := 947) 4 (jd k_Law_law_13 39 rfl) rfl ?_
    refine j_iconst (pc := 949) (v := 1) (jd k_Law_law_14 0 rfl) (by decide) ?_
    refine j_iadd (pc := 950) (jd k_Law_law_14 1 rfl) ?_
    refine j_xald (pc := 951) (f := G.2.2.2) (L := G.2.2.1) 2 (jd k_Law_law_14 2 rfl) rfl (hin 1 (by decide)) ?_
    refine jc_V (pc := 952) (d := 9) (mc := 601024) (ms := 7293034) (k := k + 1) (n := n + 6) (st := []) (w := lwW ad ae G s o L g2) (ws := lwW ad ae G s o L sg) (jCon.post (jCon.frL (c_Mod_told ae G (lwx G i 1) sg (b, g2) h2) (mkC ad G s ++ [(o, .inl (G.1 2, 1, .inr (.inl (L))))])) (fun r w h => (jFrL.eq h : jEq (some (.int b)) (lwW ad ae G s o L g2) r w))) L0_Mod_told w1458 w1459 w1460 132 rfl rfl (jd k_Law_law_14 3 rfl) rfl (by decide) (by decide) (by omega) (by omega) rfl rfl ?_
    refine j_istore (pc := 955) (lv' := [(0, .ref (G.2.1 2)), (1, .ref (ad 0)), (2, .ref (ae 0)), (3, .ref o), (4, .int i), (5, .int 1), (6, .int b)]) (jd k_Law_law_14 4 rfl) rfl (Nat.le_of_ble_eq_true rfl) rfl ?_
    refine j_aload_n (pc := 957) 2 (jd k_Law_law_14 5 rfl) rfl ?_
    refine jc_V (pc := 958) (d := 9) (mc := 601024) (ms := 7293034) (k := k + 1) (n := n + 6) (st := []) (w := lwW ad ae G s o L g2) (ws := lwW ad ae G s o L g2) (jCon.post (jCon.frL (c_Mod_thrown ae G g2 1 h3) (mkC ad G s ++ [(o, .inl (G.1 2, 1, .inr (.inl (L))))])) (fun r w h => (jFrL.eq h : jEq (some (.int 1)) (lwW ad ae G s o L g2) r w))) L0_Mod_thrown w1270 w1271 w1272 132 rfl rfl (jd k_Law_law_14 6 rfl) rfl (by decide) (by decide) (by omega) (by omega) rfl rfl ?_
    refine j_iload (pc := 961) 5 (jd k_Law_law_14 7 rfl) rfl ?_
    refine j_icmp_eq (pc := 963) (tgt := 968) (jd k_Law_law_14 8 rfl) rfl (fun h => ?_) (fun h => absurd rfl h)
    refine j_iload (pc := 968) 5 (jd k_Law_law_14 11 rfl) rfl ?_
    refine j_if_ne (pc := 970) (tgt := 985) (jd k_Law_law_14 12 rfl) rfl (fun h => ?_) (fun h => absurd h (by decide))
    refine j_goto (pc := 985) (tgt := 1197) (jd k_Law_law_14 22 rfl) rfl ?_
    refine j_pick (lv' := [(0, .ref (G.2.1 2)), (1, .ref (ad 0)), (2, .ref (ae 0)), (3, .ref o), (4, .int i)]) [0, 1, 2, 3, 4] rfl ?_
    exact j_widen (k := k + 1) (n := n + 6) (by omega) (by omega) (kk s (L) g2 hR)

set_option maxRecDepth 20000 in
theorem case_digest {ad ae : Nat → Nat} {G : jG} {P : jR → va_W → Prop} {i : Int32} {s : jU} {o : Nat} {L : Nat → Int64} {sg : jS} {k n : Nat} (Rel : jU → jS → Prop) (hin : lwIn G i) (H : FaI Rel [("java/lang/IndexOutOfBoundsException", 1)] s (f_SR_digest (lwx G i 1) s) (f_Mod_digest (lwx G i 1) sg)) (hk : k + 4 ≤ 601024) (hn : n + 24 ≤ 7293034) (kk : ∀ (s2 : jU) (L2 : Nat → Int64) (g2 : jS), Rel s2 g2 → J G m_Law_law 9 601024 7293034 P 1197 [(0, .ref (G.2.1 2)), (1, .ref (ad 0)), (2, .ref (ae 0)), (3, .ref o), (4, .int i)] [] (lwW ad ae G s2 o L2 g2) (k + 4) (n + 24)) : J G m_Law_law 9 601024 7293034 P 988 [(0, .ref (G.2.1 2)), (1, .ref (ad 0)), (2, .ref (ae 0)), (3, .ref o), (4, .int i)] [] (lwW ad ae G s o L sg) k n := by
  rcases H with ⟨v, s2, g2, h1, h2, h3, hR⟩ | ⟨E, c, b, g2, hm, h1, h2, h3, hR⟩
  · refine j_aload_n (pc := 988) 1 (jd k_Law_law_14 23 rfl) rfl ?_
    refine j_aload_n (pc := 989) 0 (jd k_Law_law_14 24 rfl) rfl ?_
    refine j_iload (pc := 990) 4 (jd k_Law_law_14 25 rfl) rfl ?_
    refine j_iconst (pc := 992) (v := 1) (jd k_Law_law_14 26 rfl) (by decide) ?_
    refine j_iadd (pc := 993) (jd k_Law_law_14 27 rfl) ?_
    refine j_xald (pc := 994) (f := G.2.2.2) (L := G.2.2.1) 2 (jd k_Law_law_14 28 rfl) rfl (hin 1 (by decide)) ?_
    refine j_aload_n (pc := 995) 3 (jd k_Law_law_14 29 rfl) rfl ?_
    refine jq_SW (pc := 996) (d := 9) (mc := 601024) (ms := 7293034) (k := k) (n := n) (st := []) (w2 := lwW ad ae G s2 o (vp_updL L (0 : Int32).toNatClampNeg v.toInt64) sg) (jConW.frR (d_digest_ok ad G (lwx G i 1) s o L  v s2 h1) (mkR ae G sg)) LW_Law_digest w941 w942 (jd k_Law_law_14 30 rfl) rfl (by decide) (by decide) (by omega) (by omega) rfl rfl rfl ?_
    refine j_istore (pc := 999) (lv' := [(0, .ref (G.2.1 2)), (1, .ref (ad 0)), (2, .ref (ae 0)), (3, .ref o), (4, .int i), (5, .int 0)]) (jd k_Law_law_14 31 rfl) rfl (Nat.le_of_ble_eq_true rfl) rfl ?_
    refine j_aload_n (pc := 1001) 2 (jd k_Law_law_14 32 rfl) rfl ?_
    refine j_aload_n (pc := 1002) 0 (jd k_Law_law_14 33 rfl) rfl ?_
    refine j_iload (pc := 1003) 4 (jd k_Law_law_14 34 rfl) rfl ?_
    refine j_iconst (pc := 1005) (v := 1) (jd k_Law_law_14 35 rfl) (by decide) ?_
    refine j_iadd (pc := 1006) (jd k_Law_law_14 36 rfl) ?_
    refine j_xald (pc := 1007) (f := G.2.2.2) (L := G.2.2.1) 2 (jd k_Law_law_14 37 rfl) rfl (hin 1 (by decide)) ?_
    refine jc_V (pc := 1008) (d := 9) (mc := 601024) (ms := 7293034) (k := k + 1) (n := n + 6) (st := []) (w := lwW ad ae G s2 o (vp_updL L (0 : Int32).toNatClampNeg v.toInt64) g2) (ws := lwW ad ae G s2 o (vp_updL L (0 : Int32).toNatClampNeg v.toInt64) sg) (jCon.post (jCon.frL (c_Mod_digest ae G (lwx G i 1) sg (v, g2) h2) (mkC ad G s2 ++ [(o, .inl (G.1 2, 1, .inr (.inl (vp_updL L (0 : Int32).toNatClampNeg v.toInt64))))])) (fun r w h => (jFrL.eq h : jEq (some (.int v)) (lwW ad ae G s2 o (vp_updL L (0 : Int32).toNatClampNeg v.toInt64) g2) r w))) L0_Mod_digest w1466 w1467 w1468 132 rfl rfl (jd k_Law_law_14 38 rfl) rfl (by decide) (by decide) (by omega) (by omega) rfl rfl ?_
    refine j_istore (pc := 1011) (lv' := [(0, .ref (G.2.1 2)), (1, .ref (ad 0)), (2, .ref (ae 0)), (3, .ref o), (4, .int i), (5, .int 0), (6, .int v)]) (jd k_Law_law_14 39 rfl) rfl (Nat.le_of_ble_eq_true rfl) rfl ?_
    refine j_aload_n (pc := 1013) 2 (jd k_Law_law_15 0 rfl) rfl ?_
    refine jc_V (pc := 1014) (d := 9) (mc := 601024) (ms := 7293034) (k := k + 1) (n := n + 6) (st := []) (w := lwW ad ae G s2 o (vp_updL L (0 : Int32).toNatClampNeg v.toInt64) g2) (ws := lwW ad ae G s2 o (vp_updL L (0 : Int32).toNatClampNeg v.toInt64) g2) (jCon.post (jCon.frL (c_Mod_thrown ae G g2 0 h3) (mkC ad G s2 ++ [(o, .inl (G.1 2, 1, .inr (.inl (vp_updL L (0 : Int32).toNatClampNeg v.toInt64))))])) (fun r w h => (jFrL.eq h : jEq (some (.int 0)) (lwW ad ae G s2 o (vp_updL L (0 : Int32).toNatClampNeg v.toInt64) g2) r w))) L0_Mod_thrown w1270 w1271 w1272 132 rfl rfl (jd k_Law_law_15 1 rfl) rfl (by decide) (by decide) (by omega) (by omega) rfl rfl ?_
    refine j_iload (pc := 1017) 5 (jd k_Law_law_15 2 rfl) rfl ?_
    refine j_icmp_eq (pc := 1019) (tgt := 1024) (jd k_Law_law_15 3 rfl) rfl (fun h => ?_) (fun h => absurd rfl h)
    refine j_iload (pc := 1024) 5 (jd k_Law_law_15 6 rfl) rfl ?_
    refine j_if_ne (pc := 1026) (tgt := 1041) (jd k_Law_law_15 7 rfl) rfl (fun h => absurd rfl h) (fun h => ?_)
    refine j_aload_n (pc := 1029) 3 (jd k_Law_law_15 8 rfl) rfl ?_
    refine j_iconst (pc := 1030) (v := 0) (jd k_Law_law_15 9 rfl) (by decide) ?_
    refine j_lald (pc := 1031) (f := vp_updL L (0 : Int32).toNatClampNeg v.toInt64) 131 (jd k_Law_law_15 10 rfl) rfl (jin.vp (by decide)) ?_
    rw [vp_updL_at]
    refine j_iload (pc := 1032) 6 (jd k_Law_law_15 11 rfl) rfl ?_
    refine j_i2l (pc := 1034) (jd k_Law_law_15 12 rfl) ?_
    refine j_lcmp (pc := 1035) (jd k_Law_law_15 13 rfl) ?_
    refine j_if_eq (pc := 1036) (tgt := 1041) (jd k_Law_law_15 14 rfl) rfl (fun h => ?_) (fun h => absurd (lg_cmp_self _) h)
    refine j_goto (pc := 1041) (tgt := 1197) (jd k_Law_law_15 17 rfl) rfl ?_
    refine j_pick (lv' := [(0, .ref (G.2.1 2)), (1, .ref (ad 0)), (2, .ref (ae 0)), (3, .ref o), (4, .int i)]) [0, 1, 2, 3, 4] rfl ?_
    exact j_widen (k := k + 1) (n := n + 6) (by omega) (by omega) (kk s2 (vp_updL L (0 : Int32).toNatClampNeg v.toInt64) g2 hR)
  · cases List.mem_singleton.mp hm
    refine j_aload_n (pc := 988) 1 (jd k_Law_law_14 23 rfl) rfl ?_
    refine j_aload_n (pc := 989) 0 (jd k_Law_law_14 24 rfl) rfl ?_
    refine j_iload (pc := 990) 4 (jd k_Law_law_14 25 rfl) rfl ?_
    refine j_iconst (pc := 992) (v := 1) (jd k_Law_law_14 26 rfl) (by decide) ?_
    refine j_iadd (pc := 993) (jd k_Law_law_14 27 rfl) ?_
    refine j_xald (pc := 994) (f := G.2.2.2) (L := G.2.2.1) 2 (jd k_Law_law_14 28 rfl) rfl (hin 1 (by decide)) ?_
    refine j_aload_n (pc := 995) 3 (jd k_Law_law_14 29 rfl) rfl ?_
    refine jq_SW (pc := 996) (d := 9) (mc := 601024) (ms := 7293034) (k := k) (n := n) (st := []) (w2 := lwW ad ae G s o L sg) (jConW.frR (d_digest_IOB ad G (lwx G i 1) s o L  h1) (mkR ae G sg)) LW_Law_digest w941 w942 (jd k_Law_law_14 30 rfl) rfl (by decide) (by decide) (by omega) (by omega) rfl rfl rfl ?_
    refine j_istore (pc := 999) (lv' := [(0, .ref (G.2.1 2)), (1, .ref (ad 0)), (2, .ref (ae 0)), (3, .ref o), (4, .int i), (5, .int 1)]) (jd k_Law_law_14 31 rfl) rfl (Nat.le_of_ble_eq_true rfl) rfl ?_
    refine j_aload_n (pc := 1001) 2 (jd k_Law_law_14 32 rfl) rfl ?_
    refine j_aload_n (pc := 1002) 0 (jd k_Law_law_14 33 rfl) rfl ?_
    refine j_iload (pc := 1003) 4 (jd k_Law_law_14 34 rfl) rfl ?_
    refine j_iconst (pc := 1005) (v := 1) (jd k_Law_law_14 35 rfl) (by decide) ?_
    refine j_iadd (pc := 1006) (jd k_Law_law_14 36 rfl) ?_
    refine j_xald (pc := 1007) (f := G.2.2.2) (L := G.2.2.1) 2 (jd k_Law_law_14 37 rfl) rfl (hin 1 (by decide)) ?_
    refine jc_V (pc := 1008) (d := 9) (mc := 601024) (ms := 7293034) (k := k + 1) (n := n + 6) (st := []) (w := lwW ad ae G s o L g2) (ws := lwW ad ae G s o L sg) (jCon.post (jCon.frL (c_Mod_digest ae G (lwx G i 1) sg (b, g2) h2) (mkC ad G s ++ [(o, .inl (G.1 2, 1, .inr (.inl (L))))])) (fun r w h => (jFrL.eq h : jEq (some (.int b)) (lwW ad ae G s o L g2) r w))) L0_Mod_digest w1466 w1467 w1468 132 rfl rfl (jd k_Law_law_14 38 rfl) rfl (by decide) (by decide) (by omega) (by omega) rfl rfl ?_
    refine j_istore (pc := 1011) (lv' := [(0, .ref (G.2.1 2)), (1, .ref (ad 0)), (2, .ref (ae 0)), (3, .ref o), (4, .int i), (5, .int 1), (6, .int b)]) (jd k_Law_law_14 39 rfl) rfl (Nat.le_of_ble_eq_true rfl) rfl ?_
    refine j_aload_n (pc := 1013) 2 (jd k_Law_law_15 0 rfl) rfl ?_
    refine jc_V (pc := 1014) (d := 9) (mc := 601024) (ms := 7293034) (k := k + 1) (n := n + 6) (st := []) (w := lwW ad ae G s o L g2) (ws := lwW ad ae G s o L g2) (jCon.post (jCon.frL (c_Mod_thrown ae G g2 1 h3) (mkC ad G s ++ [(o, .inl (G.1 2, 1, .inr (.inl (L))))])) (fun r w h => (jFrL.eq h : jEq (some (.int 1)) (lwW ad ae G s o L g2) r w))) L0_Mod_thrown w1270 w1271 w1272 132 rfl rfl (jd k_Law_law_15 1 rfl) rfl (by decide) (by decide) (by omega) (by omega) rfl rfl ?_
    refine j_iload (pc := 1017) 5 (jd k_Law_law_15 2 rfl) rfl ?_
    refine j_icmp_eq (pc := 1019) (tgt := 1024) (jd k_Law_law_15 3 rfl) rfl (fun h => ?_) (fun h => absurd rfl h)
    refine j_iload (pc := 1024) 5 (jd k_Law_law_15 6 rfl) rfl ?_
    refine j_if_ne (pc := 1026) (tgt := 1041) (jd k_Law_law_15 7 rfl) rfl (fun h => ?_) (fun h => absurd h (by decide))
    refine j_goto (pc := 1041) (tgt := 1197) (jd k_Law_law_15 17 rfl) rfl ?_
    refine j_pick (lv' := [(0, .ref (G.2.1 2)), (1, .ref (ad 0)), (2, .ref (ae 0)), (3, .ref o), (4, .int i)]) [0, 1, 2, 3, 4] rfl ?_
    exact j_widen (k := k + 1) (n := n + 6) (by omega) (by omega) (kk s (L) g2 hR)

set_option maxRecDepth 20000 in
theorem case_key {ad ae : Nat → Nat} {G : jG} {P : jR → va_W → Prop} {i : Int32} {s : jU} {o : Nat} {L : Nat → Int64} {sg : jS} {k n : Nat} (Rel : jU → jS → Prop) (hin : lwIn G i) (H : FaQ Rel s (f_SR_key s) (f_Mod_key sg)) (hk : k + 4 ≤ 601024) (hn : n + 24 ≤ 7293034) (kk : ∀ (s2 : jU) (L2 : Nat → Int64) (g2 : jS), Rel s2 g2 → J G m_Law_law 9 601024 7293034 P 1197 [(0, .ref (G.2.1 2)), (1, .ref (ad 0)), (2, .ref (ae 0)), (3, .ref o), (4, .int i)] [] (lwW ad ae G s2 o L2 g2) (k + 4) (n + 24)) : J G m_Law_law 9 601024 7293034 P 1044 [(0, .ref (G.2.1 2)), (1, .ref (ad 0)), (2, .ref (ae 0)), (3, .ref o), (4, .int i)] [] (lwW ad ae G s o L sg) k n := by
  obtain ⟨v, g2, h1, h2, hR⟩ := H
  refine j_aload_n (pc := 1044) 1 (jd k_Law_law_15 18 rfl) rfl ?_
  refine jc_V (pc := 1045) (d := 9) (mc := 601024) (ms := 7293034) (k := k) (n := n) (st := []) (w := lwW ad ae G s o L sg) (ws := lwW ad ae G s o L sg) (jCon.post (jCon.frR (jCon.frR (c_SR_key ad G  s v h1) [(o, .inl (G.1 2, 1, .inr (.inl L)))]) (mkR ae G sg)) (fun r w h => (jFrR.eq (by obtain ⟨w0, e0, h⟩ := h; exact ⟨w0, e0, jFrR.eq h⟩) : jEq (some (.int v)) (lwW ad ae G s o L sg) r w))) L0_SR_key w428 w429 w430 0 rfl rfl (jd k_Law_law_15 19 rfl) rfl (by decide) (by decide) (by omega) (by omega) rfl rfl ?_
  refine j_aload_n (pc := 1048) 2 (jd k_Law_law_15 20 rfl) rfl ?_
  refine jc_V (pc := 1049) (d := 9) (mc := 601024) (ms := 7293034) (k := k) (n := n) (st := [.int v]) (w := lwW ad ae G s o L g2) (ws := lwW ad ae G s o L sg) (jCon.post (jCon.frL (c_Mod_key ae G  sg (v, g2) h2) (mkC ad G s ++ [(o, .inl (G.1 2, 1, .inr (.inl (L))))])) (fun r w h => (jFrL.eq h : jEq (some (.int v)) (lwW ad ae G s o L g2) r w))) L0_Mod_key w1462 w1463 w1464 132 rfl rfl (jd k_Law_law_15 21 rfl) rfl (by show (1 : Nat) + 0 ≤ 8; decide) (by decide) (by omega) (by omega) rfl rfl ?_
  refine j_icmp_eq (pc := 1052) (tgt := 1197) (jd k_Law_law_15 22 rfl) rfl (fun h => ?_) (fun h => absurd rfl h)
  exact j_widen (k := k) (n := n) (by omega) (by omega) (kk s (L) g2 hR)

set_option maxRecDepth 20000 in
theorem case_recover {ad ae : Nat → Nat} {G : jG} {P : jR → va_W → Prop} {i : Int32} {s : jU} {o : Nat} {L : Nat → Int64} {sg : jS} {k n : Nat} (Rel : jU → jS → Prop) (hin : lwIn G i) (H : FaI Rel [("java/lang/IllegalStateException", 1), ("java/lang/IllegalArgumentException", 2)] s (f_SR_recover (lwx G i 1) s) (f_Mod_recover (lwx G i 1) sg)) (hk : k + 4 ≤ 601024) (hn : n + 24 ≤ 7293034) (kk : ∀ (s2 : jU) (L2 : Nat → Int64) (g2 : jS), Rel s2 g2 → J G m_Law_law 9 601024 7293034 P 1197 [(0, .ref (G.2.1 2)), (1, .ref (ad 0)), (2, .ref (ae 0)), (3, .ref o), (4, .int i)] [] (lwW ad ae G s2 o L2 g2) (k + 4) (n + 24)) : J G m_Law_law 9 601024 7293034 P 1057 [(0, .ref (G.2.1 2)), (1, .ref (ad 0)), (2, .ref (ae 0)), (3, .ref o), (4, .int i)] [] (lwW ad ae G s o L sg) k n := by
  rcases H with ⟨v, s2, g2, h1, h2, h3, hR⟩ | ⟨E, c, b, g2, hm, h1, h2, h3, hR⟩
  · refine j_aload_n (pc := 1057) 1 (jd k_Law_law_15 25 rfl) rfl ?_
    refine j_aload_n (pc := 1058) 0 (jd k_Law_law_15 26 rfl) rfl ?_
    refine j_iload (pc := 1059) 4 (jd k_Law_law_15 27 rfl) rfl ?_
    refine j_iconst (pc := 1061) (v := 1) (jd k_Law_law_15 28 rfl) (by decide) ?_
    refine j_iadd (pc := 1062) (jd k_Law_law_15 29 rfl) ?_
    refine j_xald (pc := 1063) (f := G.2.2.2) (L := G.2.2.1) 2 (jd k_Law_law_15 30 rfl) rfl (hin 1 (by decide)) ?_
    refine j_aload_n (pc := 1064) 3 (jd k_Law_law_15 31 rfl) rfl ?_
    refine jq_SW (pc := 1065) (d := 9) (mc := 601024) (ms := 7293034) (k := k) (n := n) (st := []) (w2 := lwW ad ae G s2 o (vp_updL L (0 : Int32).toNatClampNeg v.toInt64) sg) (jConW.frR (d_recover_ok ad G (lwx G i 1) s o L  v s2 h1) (mkR ae G sg)) LW_Law_recover w976 w977 (jd k_Law_law_15 32 rfl) rfl (by decide) (by decide) (by omega) (by omega) rfl rfl rfl ?_
    refine j_istore (pc := 1068) (lv' := [(0, .ref (G.2.1 2)), (1, .ref (ad 0)), (2, .ref (ae 0)), (3, .ref o), (4, .int i), (5, .int 0)]) (jd k_Law_law_15 33 rfl) rfl (Nat.le_of_ble_eq_true rfl) rfl ?_
    refine j_aload_n (pc := 1070) 2 (jd k_Law_law_15 34 rfl) rfl ?_
    refine j_aload_n (pc := 1071) 0 (jd k_Law_law_15 35 rfl) rfl ?_
    refine j_iload (pc := 1072) 4 (jd k_Law_law_15 36 rfl) rfl ?_
    refine j_iconst (pc := 1074) (v := 1) (jd k_Law_law_15 37 rfl) (by decide) ?_
    refine j_iadd (pc := 1075) (jd k_Law_law_15 38 rfl) ?_
    refine j_xald (pc := 1076) (f := G.2.2.2) (L := G.2.2.1) 2 (jd k_Law_law_15 39 rfl) rfl (hin 1 (by decide)) ?_
    refine jc_V (pc := 1077) (d := 9) (mc := 601024) (ms := 7293034) (k := k + 2) (n := n + 12) (st := []) (w := lwW ad ae G s2 o (vp_updL L (0 : Int32).toNatClampNeg v.toInt64) g2) (ws := lwW ad ae G s2 o (vp_updL L (0 : Int32).toNatClampNeg v.toInt64) sg) (jCon.post (jCon.frL (c_Mod_recover ae G (lwx G i 1) sg (v, g2) h2) (mkC ad G s2 ++ [(o, .inl (G.1 2, 1, .inr (.inl (vp_updL L (0 : Int32).toNatClampNeg v.toInt64))))])) (fun r w h => (jFrL.eq h : jEq (some (.int v)) (lwW ad ae G s2 o (vp_updL L (0 : Int32).toNatClampNeg v.toInt64) g2) r w))) L0_Mod_recover w1485 w1486 w1487 132 rfl rfl (jd k_Law_law_16 0 rfl) rfl (by decide) (by decide) (by omega) (by omega) rfl rfl ?_
    refine j_istore (pc := 1080) (lv' := [(0, .ref (G.2.1 2)), (1, .ref (ad 0)), (2, .ref (ae 0)), (3, .ref o), (4, .int i), (5, .int 0), (6, .int v)]) (jd k_Law_law_16 1 rfl) rfl (Nat.le_of_ble_eq_true rfl) rfl ?_
    refine j_aload_n (pc := 1082) 2 (jd k_Law_law_16 2 rfl) rfl ?_
    refine jc_V (pc := 1083) (d := 9) (mc := 601024) (ms := 7293034) (k := k + 2) (n := n + 12) (st := []) (w := lwW ad ae G s2 o (vp_updL L (0 : Int32).toNatClampNeg v.toInt64) g2) (ws := lwW ad ae G s2 o (vp_updL L (0 : Int32).toNatClampNeg v.toInt64) g2) (jCon.post (jCon.frL (c_Mod_thrown ae G g2 0 h3) (mkC ad G s2 ++ [(o, .inl (G.1 2, 1, .inr (.inl (vp_updL L (0 : Int32).toNatClampNeg v.toInt64))))])) (fun r w h => (jFrL.eq h : jEq (some (.int 0)) (lwW ad ae G s2 o (vp_updL L (0 : Int32).toNatClampNeg v.toInt64) g2) r w))) L0_Mod_thrown w1270 w1271 w1272 132 rfl rfl (jd k_Law_law_16 3 rfl) rfl (by decide) (by decide) (by omega) (by omega) rfl rfl ?_
    refine j_iload (pc := 1086) 5 (jd k_Law_law_16 4 rfl) rfl ?_
    refine j_icmp_eq (pc := 1088) (tgt := 1093) (jd k_Law_law_16 5 rfl) rfl (fun h => ?_) (fun h => absurd rfl h)
    refine j_iload (pc := 1093) 5 (jd k_Law_law_16 8 rfl) rfl ?_
    refine j_if_ne (pc := 1095) (tgt := 1110) (jd k_Law_law_16 9 rfl) rfl (fun h => absurd rfl h) (fun h => ?_)
    refine j_aload_n (pc := 1098) 3 (jd k_Law_law_16 10 rfl) rfl ?_
    refine j_iconst (pc := 1099) (v := 0) (jd k_Law_law_16 11 rfl) (by decide) ?_
    refine j_lald (pc := 1100) (f := vp_updL L (0 : Int32).toNatClampNeg v.toInt64) 131 (jd k_Law_law_16 12 rfl) rfl (jin.vp (by decide)) ?_
    rw [vp_updL_at]
    refine j_iload (pc := 1101) 6 (jd k_Law_law_16 13 rfl) rfl ?_
    refine j_i2l (pc := 1103) (jd k_Law_law_16 14 rfl) ?_
    refine j_lcmp (pc := 1104) (jd k_Law_law_16 15 rfl) ?_
    refine j_if_eq (pc := 1105) (tgt := 1110) (jd k_Law_law_16 16 rfl) rfl (fun h => ?_) (fun h => absurd (lg_cmp_self _) h)
    refine j_goto (pc := 1110) (tgt := 1197) (jd k_Law_law_16 19 rfl) rfl ?_
    refine j_pick (lv' := [(0, .ref (G.2.1 2)), (1, .ref (ad 0)), (2, .ref (ae 0)), (3, .ref o), (4, .int i)]) [0, 1, 2, 3, 4] rfl ?_
    exact j_widen (k := k + 2) (n := n + 12) (by omega) (by omega) (kk s2 (vp_updL L (0 : Int32).toNatClampNeg v.toInt64) g2 hR)
  · rcases List.mem_cons.mp hm with hm | hm
    · cases hm
      refine j_aload_n (pc := 1057) 1 (jd k_Law_law_15 25 rfl) rfl ?_
      refine j_aload_n (pc := 1058) 0 (jd k_Law_law_15 26 rfl) rfl ?_
      refine j_iload (pc := 1059) 4 (jd k_Law_law_15 27 rfl) rfl ?_
      refine j_iconst (pc := 1061) (v := 1) (jd k_Law_law_15 28 rfl) (by decide) ?_
      refine j_iadd (pc := 1062) (jd k_Law_law_15 29 rfl) ?_
      refine j_xald (pc := 1063) (f := G.2.2.2) (L := G.2.2.1) 2 (jd k_Law_law_15 30 rfl) rfl (hin 1 (by decide)) ?_
      refine j_aload_n (pc := 1064) 3 (jd k_Law_law_15 31 rfl) rfl ?_
      refine jq_SW (pc := 1065) (d := 9) (mc := 601024) (ms := 7293034) (k := k) (n := n) (st := []) (w2 := lwW ad ae G s o L sg) (jConW.frR (d_recover_ISE ad G (lwx G i 1) s o L  h1) (mkR ae G sg)) LW_Law_recover w976 w977 (jd k_Law_law_15 32 rfl) rfl (by decide) (by decide) (by omega) (by omega) rfl rfl rfl ?_
      refine j_istore (pc := 1068) (lv' := [(0, .ref (G.2.1 2)), (1, .ref (ad 0)), (2, .ref (ae 0)), (3, .ref o), (4, .int i), (5, .int 1)]) (jd k_Law_law_15 33 rfl) rfl (Nat.le_of_ble_eq_true rfl) rfl ?_
      refine j_aload_n (pc := 1070) 2 (jd k_Law_law_15 34 rfl) rfl ?_
      refine j_aload_n (pc := 1071) 0 (jd k_Law_law_15 35 rfl) rfl ?_
      refine j_iload (pc := 1072) 4 (jd k_Law_law_15 36 rfl) rfl ?_
      refine j_iconst (pc := 1074) (v := 1) (jd k_Law_law_15 37 rfl) (by decide) ?_
      refine j_iadd (pc := 1075) (jd k_Law_law_15 38 rfl) ?_
      refine j_xald (pc := 1076) (f := G.2.2.2) (L := G.2.2.1) 2 (jd k_Law_law_15 39 rfl) rfl (hin 1 (by decide)) ?_
      refine jc_V (pc := 1077) (d := 9) (mc := 601024) (ms := 7293034) (k := k + 2) (n := n + 12) (st := []) (w := lwW ad ae G s o L g2) (ws := lwW ad ae G s o L sg) (jCon.post (jCon.frL (c_Mod_recover ae G (lwx G i 1) sg (b, g2) h2) (mkC ad G s ++ [(o, .inl (G.1 2, 1, .inr (.inl (L))))])) (fun r w h => (jFrL.eq h : jEq (some (.int b)) (lwW ad ae G s o L g2) r w))) L0_Mod_recover w1485 w1486 w1487 132 rfl rfl (jd k_Law_law_16 0 rfl) rfl (by decide) (by decide) (by omega) (by omega) rfl rfl ?_
      refine j_istore (pc := 1080) (lv' := [(0, .ref (G.2.1 2)), (1, .ref (ad 0)), (2, .ref (ae 0)), (3, .ref o), (4, .int i), (5, .int 1), (6, .int b)]) (jd k_Law_law_16 1 rfl) rfl (Nat.le_of_ble_eq_true rfl) rfl ?_
      refine j_aload_n (pc := 1082) 2 (jd k_Law_law_16 2 rfl) rfl ?_
      refine jc_V (pc := 1083) (d := 9) (mc := 601024) (ms := 7293034) (k := k + 2) (n := n + 12) (st := []) (w := lwW ad ae G s o L g2) (ws := lwW ad ae G s o L g2) (jCon.post (jCon.frL (c_Mod_thrown ae G g2 1 h3) (mkC ad G s ++ [(o, .inl (G.1 2, 1, .inr (.inl (L))))])) (fun r w h => (jFrL.eq h : jEq (some (.int 1)) (lwW ad ae G s o L g2) r w))) L0_Mod_thrown w1270 w1271 w1272 132 rfl rfl (jd k_Law_law_16 3 rfl) rfl (by decide) (by decide) (by omega) (by omega) rfl rfl ?_
      refine j_iload (pc := 1086) 5 (jd k_Law_law_16 4 rfl) rfl ?_
      refine j_icmp_eq (pc := 1088) (tgt := 1093) (jd k_Law_law_16 5 rfl) rfl (fun h => ?_) (fun h => absurd rfl h)
      refine j_iload (pc := 1093) 5 (jd k_Law_law_16 8 rfl) rfl ?_
      refine j_if_ne (pc := 1095) (tgt := 1110) (jd k_Law_law_16 9 rfl) rfl (fun h => ?_) (fun h => absurd h (by decide))
      refine j_goto (pc := 1110) (tgt := 1197) (jd k_Law_law_16 19 rfl) rfl ?_
      refine j_pick (lv' := [(0, .ref (G.2.1 2)), (1, .ref (ad 0)), (2, .ref (ae 0)), (3, .ref o), (4, .int i)]) [0, 1, 2, 3, 4] rfl ?_
      exact j_widen (k := k + 2) (n := n + 12) (by omega) (by omega) (kk s (L) g2 hR)
    · cases List.mem_singleton.mp hm
      refine j_aload_n (pc := 1057) 1 (jd k_Law_law_15 25 rfl) rfl ?_
      refine j_aload_n (pc := 1058) 0 (jd k_Law_law_15 26 rfl) rfl ?_
      refine j_iload (pc := 1059) 4 (jd k_Law_law_15 27 rfl) rfl ?_
      refine j_iconst (pc := 1061) (v := 1) (jd k_Law_law_15 28 rfl) (by decide) ?_
      refine j_iadd (pc := 1062) (jd k_Law_law_15 29 rfl) ?_
      refine j_xald (pc := 1063) (f := G.2.2.2) (L := G.2.2.1) 2 (jd k_Law_law_15 30 rfl) rfl (hin 1 (by decide)) ?_
      refine j_aload_n (pc := 1064) 3 (jd k_Law_law_15 31 rfl) rfl ?_
      refine jq_SW (pc := 1065) (d := 9) (mc := 601024) (ms := 7293034) (k := k) (n := n) (st := []) (w2 := lwW ad ae G s o L sg) (jConW.frR (d_recover_IAE ad G (lwx G i 1) s o L  h1) (mkR ae G sg)) LW_Law_recover w976 w977 (jd k_Law_law_15 32 rfl) rfl (by decide) (by decide) (by omega) (by omega) rfl rfl rfl ?_
      refine j_istore (pc := 1068) (lv' := [(0, .ref (G.2.1 2)), (1, .ref (ad 0)), (2, .ref (ae 0)), (3, .ref o), (4, .int i), (5, .int 2)]) (jd k_Law_law_15 33 rfl) rfl (Nat.le_of_ble_eq_true rfl) rfl ?_
      refine j_aload_n (pc := 1070) 2 (jd k_Law_law_15 34 rfl) rfl ?_
      refine j_aload_n (pc := 1071) 0 (jd k_Law_law_15 35 rfl) rfl ?_
      refine j_iload (pc := 1072) 4 (jd k_Law_law_15 36 rfl) rfl ?_
      refine j_iconst (pc := 1074) (v := 1) (jd k_Law_law_15 37 rfl) (by decide) ?_
      refine j_iadd (pc := 1075) (jd k_Law_law_15 38 rfl) ?_
      refine j_xald (pc := 1076) (f := G.2.2.2) (L := G.2.2.1) 2 (jd k_Law_law_15 39 rfl) rfl (hin 1 (by decide)) ?_
      refine jc_V (pc := 1077) (d := 9) (mc := 601024) (ms := 7293034) (k := k + 2) (n := n + 12) (st := []) (w := lwW ad ae G s o L g2) (ws := lwW ad ae G s o L sg) (jCon.post (jCon.frL (c_Mod_recover ae G (lwx G i 1) sg (b, g2) h2) (mkC ad G s ++ [(o, .inl (G.1 2, 1, .inr (.inl (L))))])) (fun r w h => (jFrL.eq h : jEq (some (.int b)) (lwW ad ae G s o L g2) r w))) L0_Mod_recover w1485 w1486 w1487 132 rfl rfl (jd k_Law_law_16 0 rfl) rfl (by decide) (by decide) (by omega) (by omega) rfl rfl ?_
      refine j_istore (pc := 1080) (lv' := [(0, .ref (G.2.1 2)), (1, .ref (ad 0)), (2, .ref (ae 0)), (3, .ref o), (4, .int i), (5, .int 2), (6, .int b)]) (jd k_Law_law_16 1 rfl) rfl (Nat.le_of_ble_eq_true rfl) rfl ?_
      refine j_aload_n (pc := 1082) 2 (jd k_Law_law_16 2 rfl) rfl ?_
      refine jc_V (pc := 1083) (d := 9) (mc := 601024) (ms := 7293034) (k := k + 2) (n := n + 12) (st := []) (w := lwW ad ae G s o L g2) (ws := lwW ad ae G s o L g2) (jCon.post (jCon.frL (c_Mod_thrown ae G g2 2 h3) (mkC ad G s ++ [(o, .inl (G.1 2, 1, .inr (.inl (L))))])) (fun r w h => (jFrL.eq h : jEq (some (.int 2)) (lwW ad ae G s o L g2) r w))) L0_Mod_thrown w1270 w1271 w1272 132 rfl rfl (jd k_Law_law_16 3 rfl) rfl (by decide) (by decide) (by omega) (by omega) rfl rfl ?_
      refine j_iload (pc := 1086) 5 (jd k_Law_law_16 4 rfl) rfl ?_
      refine j_icmp_eq (pc := 1088) (tgt := 1093) (jd k_Law_law_16 5 rfl) rfl (fun h => ?_) (fun h => absurd rfl h)
      refine j_iload (pc := 1093) 5 (jd k_Law_law_16 8 rfl) rfl ?_
      refine j_if_ne (pc := 1095) (tgt := 1110) (jd k_Law_law_16 9 rfl) rfl (fun h => ?_) (fun h => absurd h (by decide))
      refine j_goto (pc := 1110) (tgt := 1197) (jd k_Law_law_16 19 rfl) rfl ?_
      refine j_pick (lv' := [(0, .ref (G.2.1 2)), (1, .ref (ad 0)), (2, .ref (ae 0)), (3, .ref o), (4, .int i)]) [0, 1, 2, 3, 4] rfl ?_
      exact j_widen (k := k + 2) (n := n + 12) (by omega) (by omega) (kk s (L) g2 hR)

set_option maxRecDepth 20000 in
theorem case_refresh {ad ae : Nat → Nat} {G : jG} {P : jR → va_W → Prop} {i : Int32} {s : jU} {o : Nat} {L : Nat → Int64} {sg : jS} {k n : Nat} (Rel : jU → jS → Prop) (hin : lwIn G i) (H : FaV Rel [("java/lang/IllegalStateException", 1)] s (f_SR_refresh s) (f_Mod_refresh sg)) (hk : k + 4 ≤ 601024) (hn : n + 24 ≤ 7293034) (kk : ∀ (s2 : jU) (L2 : Nat → Int64) (g2 : jS), Rel s2 g2 → J G m_Law_law 9 601024 7293034 P 1197 [(0, .ref (G.2.1 2)), (1, .ref (ad 0)), (2, .ref (ae 0)), (3, .ref o), (4, .int i)] [] (lwW ad ae G s2 o L2 g2) (k + 4) (n + 24)) : J G m_Law_law 9 601024 7293034 P 1113 [(0, .ref (G.2.1 2)), (1, .ref (ad 0)), (2, .ref (ae 0)), (3, .ref o), (4, .int i)] [] (lwW ad ae G s o L sg) k n := by
  rcases H with ⟨s2, g2, h1, h2, h3, hR⟩ | ⟨E, c, g2, hm, h1, h2, h3, hR⟩
  · refine j_aload_n (pc := 1113) 1 (jd k_Law_law_16 20 rfl) rfl ?_
    refine jq_SW2 (pc := 1114) (d := 9) (mc := 601024) (ms := 7293034) (k := k) (n := n) (st := []) (w2 := lwW ad ae G s2 o L sg) (jConW.frR (jConW.frR (d_refresh_ok ad G  s  s2 h1) [(o, .inl (G.1 2, 1, .inr (.inl L)))]) (mkR ae G sg)) LW_Law_refresh w1005 w1006 (jd k_Law_law_16 21 rfl) rfl (by decide) (by decide) (by omega) (by omega) rfl rfl rfl ?_
    refine j_istore (pc := 1117) (lv' := [(0, .ref (G.2.1 2)), (1, .ref (ad 0)), (2, .ref (ae 0)), (3, .ref o), (4, .int i), (5, .int 0)]) (jd k_Law_law_16 22 rfl) rfl (Nat.le_of_ble_eq_true rfl) rfl ?_
    refine j_aload_n (pc := 1119) 2 (jd k_Law_law_16 23 rfl) rfl ?_
    refine jc_V (pc := 1120) (d := 9) (mc := 601024) (ms := 7293034) (k := k + 1) (n := n + 6) (st := []) (w := lwW ad ae G s2 o L g2) (ws := lwW ad ae G s2 o L sg) (jCon.post (jCon.frL (c_Mod_refresh ae G  sg g2 h2) (mkC ad G s2 ++ [(o, .inl (G.1 2, 1, .inr (.inl (L))))])) (fun r w h => (jFrL.eq h : jEq none (lwW ad ae G s2 o L g2) r w))) L0_Mod_refresh w1493 w1494 w1495 132 rfl rfl (jd k_Law_law_16 24 rfl) rfl (by decide) (by decide) (by omega) (by omega) rfl rfl ?_
    refine j_aload_n (pc := 1123) 2 (jd k_Law_law_16 25 rfl) rfl ?_
    refine jc_V (pc := 1124) (d := 9) (mc := 601024) (ms := 7293034) (k := k + 1) (n := n + 6) (st := []) (w := lwW ad ae G s2 o L g2) (ws := lwW ad ae G s2 o L g2) (jCon.post (jCon.frL (c_Mod_thrown ae G g2 0 h3) (mkC ad G s2 ++ [(o, .inl (G.1 2, 1, .inr (.inl (L))))])) (fun r w h => (jFrL.eq h : jEq (some (.int 0)) (lwW ad ae G s2 o L g2) r w))) L0_Mod_thrown w1270 w1271 w1272 132 rfl rfl (jd k_Law_law_16 26 rfl) rfl (by decide) (by decide) (by omega) (by omega) rfl rfl ?_
    refine j_iload (pc := 1127) 5 (jd k_Law_law_16 27 rfl) rfl ?_
    refine j_icmp_eq (pc := 1129) (tgt := 1134) (jd k_Law_law_16 28 rfl) rfl (fun h => ?_) (fun h => absurd rfl h)
    refine j_goto (pc := 1134) (tgt := 1197) (jd k_Law_law_16 31 rfl) rfl ?_
    refine j_pick (lv' := [(0, .ref (G.2.1 2)), (1, .ref (ad 0)), (2, .ref (ae 0)), (3, .ref o), (4, .int i)]) [0, 1, 2, 3, 4] rfl ?_
    exact j_widen (k := k + 1) (n := n + 6) (by omega) (by omega) (kk s2 (L) g2 hR)
  · cases List.mem_singleton.mp hm
    refine j_aload_n (pc := 1113) 1 (jd k_Law_law_16 20 rfl) rfl ?_
    refine jq_SW2 (pc := 1114) (d := 9) (mc := 601024) (ms := 7293034) (k := k) (n := n) (st := []) (w2 := lwW ad ae G s o L sg) (jConW.frR (jConW.frR (d_refresh_ISE ad G  s  h1) [(o, .inl (G.1 2, 1, .inr (.inl L)))]) (mkR ae G sg)) LW_Law_refresh w1005 w1006 (jd k_Law_law_16 21 rfl) rfl (by decide) (by decide) (by omega) (by omega) rfl rfl rfl ?_
    refine j_istore (pc := 1117) (lv' := [(0, .ref (G.2.1 2)), (1, .ref (ad 0)), (2, .ref (ae 0)), (3, .ref o), (4, .int i), (5, .int 1)]) (jd k_Law_law_16 22 rfl) rfl (Nat.le_of_ble_eq_true rfl) rfl ?_
    refine j_aload_n (pc := 1119) 2 (jd k_Law_law_16 23 rfl) rfl ?_
    refine jc_V (pc := 1120) (d := 9) (mc := 601024) (ms := 7293034) (k := k + 1) (n := n + 6) (st := []) (w := lwW ad ae G s o L g2) (ws := lwW ad ae G s o L sg) (jCon.post (jCon.frL (c_Mod_refresh ae G  sg g2 h2) (mkC ad G s ++ [(o, .inl (G.1 2, 1, .inr (.inl (L))))])) (fun r w h => (jFrL.eq h : jEq none (lwW ad ae G s o L g2) r w))) L0_Mod_refresh w1493 w1494 w1495 132 rfl rfl (jd k_Law_law_16 24 rfl) rfl (by decide) (by decide) (by omega) (by omega) rfl rfl ?_
    refine j_aload_n (pc := 1123) 2 (jd k_Law_law_16 25 rfl) rfl ?_
    refine jc_V (pc := 1124) (d := 9) (mc := 601024) (ms := 7293034) (k := k + 1) (n := n + 6) (st := []) (w := lwW ad ae G s o L g2) (ws := lwW ad ae G s o L g2) (jCon.post (jCon.frL (c_Mod_thrown ae G g2 1 h3) (mkC ad G s ++ [(o, .inl (G.1 2, 1, .inr (.inl (L))))])) (fun r w h => (jFrL.eq h : jEq (some (.int 1)) (lwW ad ae G s o L g2) r w))) L0_Mod_thrown w1270 w1271 w1272 132 rfl rfl (jd k_Law_law_16 26 rfl) rfl (by decide) (by decide) (by omega) (by omega) rfl rfl ?_
    refine j_iload (pc := 1127) 5 (jd k_Law_law_16 27 rfl) rfl ?_
    refine j_icmp_eq (pc := 1129) (tgt := 1134) (jd k_Law_law_16 28 rfl) rfl (fun h => ?_) (fun h => absurd rfl h)
    refine j_goto (pc := 1134) (tgt := 1197) (jd k_Law_law_16 31 rfl) rfl ?_
    refine j_pick (lv' := [(0, .ref (G.2.1 2)), (1, .ref (ad 0)), (2, .ref (ae 0)), (3, .ref o), (4, .int i)]) [0, 1, 2, 3, 4] rfl ?_
    exact j_widen (k := k + 1) (n := n + 6) (by omega) (by omega) (kk s (L) g2 hR)

set_option maxRecDepth 20000 in
theorem case_handOn {ad ae : Nat → Nat} {G : jG} {P : jR → va_W → Prop} {i : Int32} {s : jU} {o : Nat} {L : Nat → Int64} {sg : jS} {k n : Nat} (Rel : jU → jS → Prop) (hin : lwIn G i) (H : FaV Rel [("java/lang/IllegalStateException", 1), ("java/lang/IllegalArgumentException", 2)] s (f_SR_handOn (lwx G i 1) (lwx G i 2) (lwx G i 3) s) (f_Mod_handOn (lwx G i 1) (lwx G i 2) (lwx G i 3) sg)) (hk : k + 4 ≤ 601024) (hn : n + 24 ≤ 7293034) (kk : ∀ (s2 : jU) (L2 : Nat → Int64) (g2 : jS), Rel s2 g2 → J G m_Law_law 9 601024 7293034 P 1197 [(0, .ref (G.2.1 2)), (1, .ref (ad 0)), (2, .ref (ae 0)), (3, .ref o), (4, .int i)] [] (lwW ad ae G s2 o L2 g2) (k + 4) (n + 24)) : J G m_Law_law 9 601024 7293034 P 1137 [(0, .ref (G.2.1 2)), (1, .ref (ad 0)), (2, .ref (ae 0)), (3, .ref o), (4, .int i)] [] (lwW ad ae G s o L sg) k n := by
  rcases H with ⟨s2, g2, h1, h2, h3, hR⟩ | ⟨E, c, g2, hm, h1, h2, h3, hR⟩
  · refine j_aload_n (pc := 1137) 1 (jd k_Law_law_16 32 rfl) rfl ?_
    refine j_aload_n (pc := 1138) 0 (jd k_Law_law_16 33 rfl) rfl ?_
    refine j_iload (pc := 1139) 4 (jd k_Law_law_16 34 rfl) rfl ?_
    refine j_iconst (pc := 1141) (v := 1) (jd k_Law_law_16 35 rfl) (by decide) ?_
    refine j_iadd (pc := 1142) (jd k_Law_law_16 36 rfl) ?_
    refine j_xald (pc := 1143) (f := G.2.2.2) (L := G.2.2.1) 2 (jd k_Law_law_16 37 rfl) rfl (hin 1 (by decide)) ?_
    refine j_aload_n (pc := 1144) 0 (jd k_Law_law_16 38 rfl) rfl ?_
    refine j_iload (pc := 1145) 4 (jd k_Law_law_16 39 rfl) rfl ?_
    refine j_iconst (pc := 1147) (v := 2) (jd k_Law_law_17 0 rfl) (by decide) ?_
    refine j_iadd (pc := 1148) (jd k_Law_law_17 1 rfl) ?_
    refine j_xald (pc := 1149) (f := G.2.2.2) (L := G.2.2.1) 2 (jd k_Law_law_17 2 rfl) rfl (hin 2 (by decide)) ?_
    refine j_aload_n (pc := 1150) 0 (jd k_Law_law_17 3 rfl) rfl ?_
    refine j_iload (pc := 1151) 4 (jd k_Law_law_17 4 rfl) rfl ?_
    refine j_iconst (pc := 1153) (v := 3) (jd k_Law_law_17 5 rfl) (by decide) ?_
    refine j_iadd (pc := 1154) (jd k_Law_law_17 6 rfl) ?_
    refine j_xald (pc := 1155) (f := G.2.2.2) (L := G.2.2.1) 2 (jd k_Law_law_17 7 rfl) rfl (hin 3 (by decide)) ?_
    refine jq_SW2 (pc := 1156) (d := 9) (mc := 601024) (ms := 7293034) (k := k) (n := n) (st := []) (w2 := lwW ad ae G s2 o L sg) (jConW.frR (jConW.frR (d_handOn_ok ad G (lwx G i 1) (lwx G i 2) (lwx G i 3) s  s2 h1) [(o, .inl (G.1 2, 1, .inr (.inl L)))]) (mkR ae G sg)) LW_Law_handOn w1025 w1026 (jd k_Law_law_17 8 rfl) rfl (by decide) (by decide) (by omega) (by omega) rfl rfl rfl ?_
    refine j_istore (pc := 1159) (lv' := [(0, .ref (G.2.1 2)), (1, .ref (ad 0)), (2, .ref (ae 0)), (3, .ref o), (4, .int i), (5, .int 0)]) (jd k_Law_law_17 9 rfl) rfl (Nat.le_of_ble_eq_true rfl) rfl ?_
    refine j_aload_n (pc := 1161) 2 (jd k_Law_law_17 10 rfl) rfl ?_
    refine j_aload_n (pc := 1162) 0 (jd k_Law_law_17 11 rfl) rfl ?_
    refine j_iload (pc := 1163) 4 (jd k_Law_law_17 12 rfl) rfl ?_
    refine j_iconst (pc := 1165) (v := 1) (jd k_Law_law_17 13 rfl) (by decide) ?_
    refine j_iadd (pc := 1166) (jd k_Law_law_17 14 rfl) ?_
    refine j_xald (pc := 1167) (f := G.2.2.2) (L := G.2.2.1) 2 (jd k_Law_law_17 15 rfl) rfl (hin 1 (by decide)) ?_
    refine j_aload_n (pc := 1168) 0 (jd k_Law_law_17 16 rfl) rfl ?_
    refine j_iload (pc := 1169) 4 (jd k_Law_law_17 17 rfl) rfl ?_
    refine j_iconst (pc := 1171) (v := 2) (jd k_Law_law_17 18 rfl) (by decide) ?_
    refine j_iadd (pc := 1172) (jd k_Law_law_17 19 rfl) ?_
    refine j_xald (pc := 1173) (f := G.2.2.2) (L := G.2.2.1) 2 (jd k_Law_law_17 20 rfl) rfl (hin 2 (by decide)) ?_
    refine j_aload_n (pc := 1174) 0 (jd k_Law_law_17 21 rfl) rfl ?_
    refine j_iload (pc := 1175) 4 (jd k_Law_law_17 22 rfl) rfl ?_
    refine j_iconst (pc := 1177) (v := 3) (jd k_Law_law_17 23 rfl) (by decide) ?_
    refine j_iadd (pc := 1178) (jd k_Law_law_17 24 rfl) ?_
    refine j_xald (pc := 1179) (f := G.2.2.2) (L := G.2.2.1) 2 (jd k_Law_law_17 25 rfl) rfl (hin 3 (by decide)) ?_
    refine jc_V (pc := 1180) (d := 9) (mc := 601024) (ms := 7293034) (k := k + 3) (n := n + 18) (st := []) (w := lwW ad ae G s2 o L g2) (ws := lwW ad ae G s2 o L sg) (jCon.post (jCon.frL (c_Mod_handOn ae G (lwx G i 1) (lwx G i 2) (lwx G i 3) sg g2 h2) (mkC ad G s2 ++ [(o, .inl (G.1 2, 1, .inr (.inl (L))))])) (fun r w h => (jFrL.eq h : jEq none (lwW ad ae G s2 o L g2) r w))) L0_Mod_handOn w1497 w1498 w1499 132 rfl rfl (jd k_Law_law_17 26 rfl) rfl (by decide) (by decide) (by omega) (by omega) rfl rfl ?_
    refine j_aload_n (pc := 1183) 2 (jd k_Law_law_17 27 rfl) rfl ?_
    refine jc_V (pc := 1184) (d := 9) (mc := 601024) (ms := 7293034) (k := k + 3) (n := n + 18) (st := []) (w := lwW ad ae G s2 o L g2) (ws := lwW ad ae G s2 o L g2) (jCon.post (jCon.frL (c_Mod_thrown ae G g2 0 h3) (mkC ad G s2 ++ [(o, .inl (G.1 2, 1, .inr (.inl (L))))])) (fun r w h => (jFrL.eq h : jEq (some (.int 0)) (lwW ad ae G s2 o L g2) r w))) L0_Mod_thrown w1270 w1271 w1272 132 rfl rfl (jd k_Law_law_17 28 rfl) rfl (by decide) (by decide) (by omega) (by omega) rfl rfl ?_
    refine j_iload (pc := 1187) 5 (jd k_Law_law_17 29 rfl) rfl ?_
    refine j_icmp_eq (pc := 1189) (tgt := 1194) (jd k_Law_law_17 30 rfl) rfl (fun h => ?_) (fun h => absurd rfl h)
    refine j_goto (pc := 1194) (tgt := 1197) (jd k_Law_law_17 33 rfl) rfl ?_
    refine j_pick (lv' := [(0, .ref (G.2.1 2)), (1, .ref (ad 0)), (2, .ref (ae 0)), (3, .ref o), (4, .int i)]) [0, 1, 2, 3, 4] rfl ?_
    exact j_widen (k := k + 3) (n := n + 18) (by omega) (by omega) (kk s2 (L) g2 hR)
  · rcases List.mem_cons.mp hm with hm | hm
    · cases hm
      refine j_aload_n (pc := 1137) 1 (jd k_Law_law_16 32 rfl) rfl ?_
      refine j_aload_n (pc := 1138) 0 (jd k_Law_law_16 33 rfl) rfl ?_
      refine j_iload (pc := 1139) 4 (jd k_Law_law_16 34 rfl) rfl ?_
      refine j_iconst (pc := 1141) (v := 1) (jd k_Law_law_16 35 rfl) (by decide) ?_
      refine j_iadd (pc := 1142) (jd k_Law_law_16 36 rfl) ?_
      refine j_xald (pc := 1143) (f := G.2.2.2) (L := G.2.2.1) 2 (jd k_Law_law_16 37 rfl) rfl (hin 1 (by decide)) ?_
      refine j_aload_n (pc := 1144) 0 (jd k_Law_law_16 38 rfl) rfl ?_
      refine j_iload (pc := 1145) 4 (jd k_Law_law_16 39 rfl) rfl ?_
      refine j_iconst (pc := 1147) (v := 2) (jd k_Law_law_17 0 rfl) (by decide) ?_
      refine j_iadd (pc := 1148) (jd k_Law_law_17 1 rfl) ?_
      refine j_xald (pc := 1149) (f := G.2.2.2) (L := G.2.2.1) 2 (jd k_Law_law_17 2 rfl) rfl (hin 2 (by decide)) ?_
      refine j_aload_n (pc := 1150) 0 (jd k_Law_law_17 3 rfl) rfl ?_
      refine j_iload (pc := 1151) 4 (jd k_Law_law_17 4 rfl) rfl ?_
      refine j_iconst (pc := 1153) (v := 3) (jd k_Law_law_17 5 rfl) (by decide) ?_
      refine j_iadd (pc := 1154) (jd k_Law_law_17 6 rfl) ?_
      refine j_xald (pc := 1155) (f := G.2.2.2) (L := G.2.2.1) 2 (jd k_Law_law_17 7 rfl) rfl (hin 3 (by decide)) ?_
      refine jq_SW2 (pc := 1156) (d := 9) (mc := 601024) (ms := 7293034) (k := k) (n := n) (st := []) (w2 := lwW ad ae G s o L sg) (jConW.frR (jConW.frR (d_handOn_ISE ad G (lwx G i 1) (lwx G i 2) (lwx G i 3) s  h1) [(o, .inl (G.1 2, 1, .inr (.inl L)))]) (mkR ae G sg)) LW_Law_handOn w1025 w1026 (jd k_Law_law_17 8 rfl) rfl (by decide) (by decide) (by omega) (by omega) rfl rfl rfl ?_
      refine j_istore (pc := 1159) (lv' := [(0, .ref (G.2.1 2)), (1, .ref (ad 0)), (2, .ref (ae 0)), (3, .ref o), (4, .int i), (5, .int 1)]) (jd k_Law_law_17 9 rfl) rfl (Nat.le_of_ble_eq_true rfl) rfl ?_
      refine j_aload_n (pc := 1161) 2 (jd k_Law_law_17 10 rfl) rfl ?_
      refine j_aload_n (pc := 1162) 0 (jd k_Law_law_17 11 rfl) rfl ?_
      refine j_iload (pc := 1163) 4 (jd k_Law_law_17 12 rfl) rfl ?_
      refine j_iconst (pc := 1165) (v := 1) (jd k_Law_law_17 13 rfl) (by decide) ?_
      refine j_iadd (pc := 1166) (jd k_Law_law_17 14 rfl) ?_
      refine j_xald (pc := 1167) (f := G.2.2.2) (L := G.2.2.1) 2 (jd k_Law_law_17 15 rfl) rfl (hin 1 (by decide)) ?_
      refine j_aload_n (pc := 1168) 0 (jd k_Law_law_17 16 rfl) rfl ?_
      refine j_iload (pc := 1169) 4 (jd k_Law_law_17 17 rfl) rfl ?_
      refine j_iconst (pc := 1171) (v := 2) (jd k_Law_law_17 18 rfl) (by decide) ?_
      refine j_iadd (pc := 1172) (jd k_Law_law_17 19 rfl) ?_
      refine j_xald (pc := 1173) (f := G.2.2.2) (L := G.2.2.1) 2 (jd k_Law_law_17 20 rfl) rfl (hin 2 (by decide)) ?_
      refine j_aload_n (pc := 1174) 0 (jd k_Law_law_17 21 rfl) rfl ?_
      refine j_iload (pc := 1175) 4 (jd k_Law_law_17 22 rfl) rfl ?_
      refine j_iconst (pc := 1177) (v := 3) (jd k_Law_law_17 23 rfl) (by decide) ?_
      refine j_iadd (pc := 1178) (jd k_Law_law_17 24 rfl) ?_
      refine j_xald (pc := 1179) (f := G.2.2.2) (L := G.2.2.1) 2 (jd k_Law_law_17 25 rfl) rfl (hin 3 (by decide)) ?_
      refine jc_V (pc := 1180) (d := 9) (mc := 601024) (ms := 7293034) (k := k + 3) (n := n + 18) (st := []) (w := lwW ad ae G s o L g2) (ws := lwW ad ae G s o L sg) (jCon.post (jCon.frL (c_Mod_handOn ae G (lwx G i 1) (lwx G i 2) (lwx G i 3) sg g2 h2) (mkC ad G s ++ [(o, .inl (G.1 2, 1, .inr (.inl (L))))])) (fun r w h => (jFrL.eq h : jEq none (lwW ad ae G s o L g2) r w))) L0_Mod_handOn w1497 w1498 w1499 132 rfl rfl (jd k_Law_law_17 26 rfl) rfl (by decide) (by decide) (by omega) (by omega) rfl rfl ?_
      refine j_aload_n (pc := 1183) 2 (jd k_Law_law_17 27 rfl) rfl ?_
      refine jc_V (pc := 1184) (d := 9) (mc := 601024) (ms := 7293034) (k := k + 3) (n := n + 18) (st := []) (w := lwW ad ae G s o L g2) (ws := lwW ad ae G s o L g2) (jCon.post (jCon.frL (c_Mod_thrown ae G g2 1 h3) (mkC ad G s ++ [(o, .inl (G.1 2, 1, .inr (.inl (L))))])) (fun r w h => (jFrL.eq h : jEq (some (.int 1)) (lwW ad ae G s o L g2) r w))) L0_Mod_thrown w1270 w1271 w1272 132 rfl rfl (jd k_Law_law_17 28 rfl) rfl (by decide) (by decide) (by omega) (by omega) rfl rfl ?_
      refine j_iload (pc := 1187) 5 (jd k_Law_law_17 29 rfl) rfl ?_
      refine j_icmp_eq (pc := 1189) (tgt := 1194) (jd k_Law_law_17 30 rfl) rfl (fun h => ?_) (fun h => absurd rfl h)
      refine j_goto (pc := 1194) (tgt := 1197) (jd k_Law_law_17 33 rfl) rfl ?_
      refine j_pick (lv' := [(0, .ref (G.2.1 2)), (1, .ref (ad 0)), (2, .ref (ae 0)), (3, .ref o), (4, .int i)]) [0, 1, 2, 3, 4] rfl ?_
      exact j_widen (k := k + 3) (n := n + 18) (by omega) (by omega) (kk s (L) g2 hR)
    · cases List.mem_singleton.mp hm
      refine j_aload_n (pc := 1137) 1 (jd k_Law_law_16 32 rfl) rfl ?_
      refine j_aload_n (pc := 1138) 0 (jd k_Law_law_16 33 rfl) rfl ?_
      refine j_iload (pc := 1139) 4 (jd k_Law_law_16 34 rfl) rfl ?_
      refine j_iconst (pc := 1141) (v := 1) (jd k_Law_law_16 35 rfl) (by decide) ?_
      refine j_iadd (pc := 1142) (jd k_Law_law_16 36 rfl) ?_
      refine j_xald (pc := 1143) (f := G.2.2.2) (L := G.2.2.1) 2 (jd k_Law_law_16 37 rfl) rfl (hin 1 (by decide)) ?_
      refine j_aload_n (pc := 1144) 0 (jd k_Law_law_16 38 rfl) rfl ?_
      refine j_iload (pc := 1145) 4 (jd k_Law_law_16 39 rfl) rfl ?_
      refine j_iconst (pc := 1147) (v := 2) (jd k_Law_law_17 0 rfl) (by decide) ?_
      refine j_iadd (pc := 1148) (jd k_Law_law_17 1 rfl) ?_
      refine j_xald (pc := 1149) (f := G.2.2.2) (L := G.2.2.1) 2 (jd k_Law_law_17 2 rfl) rfl (hin 2 (by decide)) ?_
      refine j_aload_n (pc := 1150) 0 (jd k_Law_law_17 3 rfl) rfl ?_
      refine j_iload (pc := 1151) 4 (jd k_Law_law_17 4 rfl) rfl ?_
      refine j_iconst (pc := 1153) (v := 3) (jd k_Law_law_17 5 rfl) (by decide) ?_
      refine j_iadd (pc := 1154) (jd k_Law_law_17 6 rfl) ?_
      refine j_xald (pc := 1155) (f := G.2.2.2) (L := G.2.2.1) 2 (jd k_Law_law_17 7 rfl) rfl (hin 3 (by decide)) ?_
      refine jq_SW2 (pc := 1156) (d := 9) (mc := 601024) (ms := 7293034) (k := k) (n := n) (st := []) (w2 := lwW ad ae G s o L sg) (jConW.frR (jConW.frR (d_handOn_IAE ad G (lwx G i 1) (lwx G i 2) (lwx G i 3) s  h1) [(o, .inl (G.1 2, 1, .inr (.inl L)))]) (mkR ae G sg)) LW_Law_handOn w1025 w1026 (jd k_Law_law_17 8 rfl) rfl (by decide) (by decide) (by omega) (by omega) rfl rfl rfl ?_
      refine j_istore (pc := 1159) (lv' := [(0, .ref (G.2.1 2)), (1, .ref (ad 0)), (2, .ref (ae 0)), (3, .ref o), (4, .int i), (5, .int 2)]) (jd k_Law_law_17 9 rfl) rfl (Nat.le_of_ble_eq_true rfl) rfl ?_
      refine j_aload_n (pc := 1161) 2 (jd k_Law_law_17 10 rfl) rfl ?_
      refine j_aload_n (pc := 1162) 0 (jd k_Law_law_17 11 rfl) rfl ?_
      refine j_iload (pc := 1163) 4 (jd k_Law_law_17 12 rfl) rfl ?_
      refine j_iconst (pc := 1165) (v := 1) (jd k_Law_law_17 13 rfl) (by decide) ?_
      refine j_iadd (pc := 1166) (jd k_Law_law_17 14 rfl) ?_
      refine j_xald (pc := 1167) (f := G.2.2.2) (L := G.2.2.1) 2 (jd k_Law_law_17 15 rfl) rfl (hin 1 (by decide)) ?_
      refine j_aload_n (pc := 1168) 0 (jd k_Law_law_17 16 rfl) rfl ?_
      refine j_iload (pc := 1169) 4 (jd k_Law_law_17 17 rfl) rfl ?_
      refine j_iconst (pc := 1171) (v := 2) (jd k_Law_law_17 18 rfl) (by decide) ?_
      refine j_iadd (pc := 1172) (jd k_Law_law_17 19 rfl) ?_
      refine j_xald (pc := 1173) (f := G.2.2.2) (L := G.2.2.1) 2 (jd k_Law_law_17 20 rfl) rfl (hin 2 (by decide)) ?_
      refine j_aload_n (pc := 1174) 0 (jd k_Law_law_17 21 rfl) rfl ?_
      refine j_iload (pc := 1175) 4 (jd k_Law_law_17 22 rfl) rfl ?_
      refine j_iconst (pc := 1177) (v := 3) (jd k_Law_law_17 23 rfl) (by decide) ?_
      refine j_iadd (pc := 1178) (jd k_Law_law_17 24 rfl) ?_
      refine j_xald (pc := 1179) (f := G.2.2.2) (L := G.2.2.1) 2 (jd k_Law_law_17 25 rfl) rfl (hin 3 (by decide)) ?_
      refine jc_V (pc := 1180) (d := 9) (mc := 601024) (ms := 7293034) (k := k + 3) (n := n + 18) (st := []) (w := lwW ad ae G s o L g2) (ws := lwW ad ae G s o L sg) (jCon.post (jCon.frL (c_Mod_handOn ae G (lwx G i 1) (lwx G i 2) (lwx G i 3) sg g2 h2) (mkC ad G s ++ [(o, .inl (G.1 2, 1, .inr (.inl (L))))])) (fun r w h => (jFrL.eq h : jEq none (lwW ad ae G s o L g2) r w))) L0_Mod_handOn w1497 w1498 w1499 132 rfl rfl (jd k_Law_law_17 26 rfl) rfl (by decide) (by decide) (by omega) (by omega) rfl rfl ?_
      refine j_aload_n (pc := 1183) 2 (jd k_Law_law_17 27 rfl) rfl ?_
      refine jc_V (pc := 1184) (d := 9) (mc := 601024) (ms := 7293034) (k := k + 3) (n := n + 18) (st := []) (w := lwW ad ae G s o L g2) (ws := lwW ad ae G s o L g2) (jCon.post (jCon.frL (c_Mod_thrown ae G g2 2 h3) (mkC ad G s ++ [(o, .inl (G.1 2, 1, .inr (.inl (L))))])) (fun r w h => (jFrL.eq h : jEq (some (.int 2)) (lwW ad ae G s o L g2) r w))) L0_Mod_thrown w1270 w1271 w1272 132 rfl rfl (jd k_Law_law_17 28 rfl) rfl (by decide) (by decide) (by omega) (by omega) rfl rfl ?_
      refine j_iload (pc := 1187) 5 (jd k_Law_law_17 29 rfl) rfl ?_
      refine j_icmp_eq (pc := 1189) (tgt := 1194) (jd k_Law_law_17 30 rfl) rfl (fun h => ?_) (fun h => absurd rfl h)
      refine j_goto (pc := 1194) (tgt := 1197) (jd k_Law_law_17 33 rfl) rfl ?_
      refine j_pick (lv' := [(0, .ref (G.2.1 2)), (1, .ref (ad 0)), (2, .ref (ae 0)), (3, .ref o), (4, .int i)]) [0, 1, 2, 3, 4] rfl ?_
      exact j_widen (k := k + 3) (n := n + 18) (by omega) (by omega) (kk s (L) g2 hR)

