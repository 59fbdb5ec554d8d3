theorem df_SR : ∀ j, j < 3 → defaultValue (ty_SR j) = vp_V [.null, .null, .null] j := by
  intro j hj
  match j, hj with | 0, _ => rfl | 1, _ => rfl | 2, _ => rfl
set_option maxRecDepth 100000 in
theorem w86 : Cond.classLink "SharingRoomLaw" 8 "SharingRoom" ∈ jWS := jm 86 rfl rfl
set_option maxRecDepth 100000 in
theorem w87 : Cond.instantiable "SharingRoom" 3 ∈ jWS := jm 87 rfl rfl
theorem df_Mod : ∀ j, j < 48 → defaultValue (ty_Mod j) = vp_V [.int 0, .int 0, .int 0, .null, .null, .null, .null, .null, .null, .int 0, .int 0, .int 0, .int 0, .int 0, .int 0, .int 0, .int 0, .int 0, .int 0, .null, .null, .null, .null, .int 0, .int 0, .int 0, .int 0, .int 0, .null, .null, .null, .null, .null, .null, .null, .null, .null, .null, .null, .int 0, .int 0, .null, .null, .null, .null, .null, .null, .null] j := by
  intro j hj
  match j, hj with | 0, _ => rfl | 1, _ => rfl | 2, _ => rfl | 3, _ => rfl | 4, _ => rfl | 5, _ => rfl | 6, _ => rfl | 7, _ => rfl | 8, _ => rfl | 9, _ => rfl | 10, _ => rfl | 11, _ => rfl | 12, _ => rfl | 13, _ => rfl | 14, _ => rfl | 15, _ => rfl | 16, _ => rfl | 17, _ => rfl | 18, _ => rfl | 19, _ => rfl | 20, _ => rfl | 21, _ => rfl | 22, _ => rfl | 23, _ => rfl | 24, _ => rfl | 25, _ => rfl | 26, _ => rfl | 27, _ => rfl | 28, _ => rfl | 29, _ => rfl | 30, _ => rfl | 31, _ => rfl | 32, _ => rfl | 33, _ => rfl | 34, _ => rfl | 35, _ => rfl | 36, _ => rfl | 37, _ => rfl | 38, _ => rfl | 39, _ => rfl | 40, _ => rfl | 41, _ => rfl | 42, _ => rfl | 43, _ => rfl | 44, _ => rfl | 45, _ => rfl | 46, _ => rfl | 47, _ => rfl | j + 48, h => exact absurd h (by omega)
set_option maxRecDepth 100000 in
theorem w1044 : Cond.classLink "SharingRoomLaw" 75 "SharingRoomModel" ∈ jWS := jm 1044 rfl rfl
set_option maxRecDepth 100000 in
theorem w1045 : Cond.instantiable "SharingRoomModel" 48 ∈ jWS := jm 1045 rfl rfl
set_option maxRecDepth 100000 in
theorem w90 : Cond.code ⟨"SharingRoom", "<init>", "()V"⟩ prog_1_method_1_code 3 none ∈ jWS := jm 90 rfl rfl
theorem L0_SR_init : jL0 y_SR_init m_SR_init 0 := ⟨w90, w63, ⟨by decide +kernel, by decide +kernel⟩, by decide +kernel, by decide +kernel⟩
set_option maxRecDepth 100000 in
theorem w1048 : Cond.code ⟨"SharingRoomModel", "<init>", "()V"⟩ prog_14_method_1_code 3 none ∈ jWS := jm 1048 rfl rfl
theorem L0_Mod_init : jL0 y_Mod_init m_Mod_init 0 := ⟨w1048, w75, ⟨by decide +kernel, by decide +kernel⟩, by decide +kernel, by decide +kernel⟩
set_option maxRecDepth 100000 in
theorem w88 : Cond.methodLink "SharingRoomLaw" 74 ⟨"SharingRoom", "<init>", "()V"⟩ ∈ jWS := jm 88 rfl rfl
set_option maxRecDepth 100000 in
theorem w89 : Cond.instanceMethod ⟨"SharingRoom", "<init>", "()V"⟩ ∈ jWS := jm 89 rfl rfl
set_option maxRecDepth 100000 in
theorem w1046 : Cond.methodLink "SharingRoomLaw" 77 ⟨"SharingRoomModel", "<init>", "()V"⟩ ∈ jWS := jm 1046 rfl rfl
set_option maxRecDepth 100000 in
theorem w1047 : Cond.instanceMethod ⟨"SharingRoomModel", "<init>", "()V"⟩ ∈ jWS := jm 1047 rfl rfl
set_option maxRecDepth 100000 in
theorem w1501 : Cond.arrayClass FieldType.long ∈ jWS := jm 1501 rfl rfl
/-! ===== the law: its loop and its start ===== -/
theorem jraL (U : State) (c1 c2 : ClassId) (h1 : va_RA U c1 .long) (h2 : va_RA U c2 .long) : c1 = c2 := Option.some.inj ((show _ = some c1 from h1).symm.trans (show _ = some c2 from h2))
theorem j_newl {G : jG} {M : jM} {d mc ms : Nat} {P : jR → va_W → Prop} {pc : Nat} {lv : List (Nat × Value)} {st : List Value} {ws : va_W} {k n : Nat} {x : Int32} {N : Nat} (harr : Cond.arrayClass .long ∈ jWS) (hn : ¬ x < 0) (hN : x.toNatClampNeg = N) (hby : N ≤ 100000)
    (hd : decode M.2.1 pc = .ok (.newarray .long, 2)) (hc : k + 1 ≤ mc) (hs : n + N ≤ ms) (kk : ∀ q : Nat, J G M d mc ms P (pc + 2) lv (.ref q :: st) (ws ++ [(q, .inl (G.1 2, N, .inr (.inl (fun _ => 0))))]) (k + 1) (n + N)) : J G M d mc ms P pc lv (.int x :: st) ws k n :=
  j_newa (aty := .long) (ty := .long) (a0 := (N, .inr (.inl (fun _ => 0)))) 2 rfl rfl jraL harr (fun cA => rfl) hn hN (by show N * 8 ≤ 536870912; omega) hd hc hs kk
theorem lw_i (t : Nat) (h : t < 2147483648) : (Int32.ofNat t).toInt = (t : Int) := Int32.toInt_ofNat_of_lt h
theorem lw_cond {L t : Nat} (hL : L ≤ 2560) (ht : t ≤ 513) (h : ¬ (Int32.ofNat L - 5 < Int32.ofNat (5 * t))) : 5 * t + 5 ≤ L := by
  rw [Int32.lt_iff_toInt_lt, Int32.toInt_sub, lw_i L (by omega), lw_i (5 * t) (by omega)] at h
  have e3 : (5 : Int32).toInt = 5 := rfl
  rw [e3, Int.bmod_eq_of_le (by simp; omega) (by simp; omega)] at h
  omega
theorem lw_plus {t j : Nat} (ht : t + j < 2147483648) : Int32.ofNat t + Int32.ofNat j = Int32.ofNat (t + j) := (Int32.ofNat_add t j).symm
theorem lw_vp {t L : Nat} (h : t < L) (hL : L ≤ 2560) : vp_in (Int32.ofNat t) L := by
  rintro (h1 | h1)
  · rw [Int32.lt_iff_toInt_lt, lw_i t (by omega)] at h1
    have e3 : (0 : Int32).toInt = 0 := rfl
    omega
  · have e : (Int32.ofNat t).toNatClampNeg = t := by
      show (Int32.ofNat t).toInt.toNat = t
      rw [lw_i t (by omega)]; rfl
    omega
theorem lw_in1 {t j L : Nat} (h : t + j < L) (hL : L ≤ 2560) : vp_in (Int32.ofNat t + Int32.ofNat j) L := by
  rw [lw_plus (by omega)]
  exact lw_vp h hL
theorem lw_in {G : jG} {t : Nat} (hL : G.2.2.1 ≤ 2560) (h : 5 * t + 5 ≤ G.2.2.1) : lwIn G (Int32.ofNat (5 * t)) := by
  intro j hj
  have e0 : (0 : Int32) = Int32.ofNat 0 := rfl
  have e1 : (1 : Int32) = Int32.ofNat 1 := rfl
  have e2 : (2 : Int32) = Int32.ofNat 2 := rfl
  have e3 : (3 : Int32) = Int32.ofNat 3 := rfl
  have e4 : (4 : Int32) = Int32.ofNat 4 := rfl
  rcases hj with hj | hj | hj | hj | hj
  · rw [hj, e0]; exact lw_in1 (by omega) hL
  · rw [hj, e1]; exact lw_in1 (by omega) hL
  · rw [hj, e2]; exact lw_in1 (by omega) hL
  · rw [hj, e3]; exact lw_in1 (by omega) hL
  · rw [hj, e4]; exact lw_in1 (by omega) hL
theorem lw_lab (x : Int32) (h1 : 0 ≤ x.toInt) (h2 : x.toInt ≤ 21) : ∃ n : Nat, n < 22 ∧ x = Int32.ofNat n := by
  refine ⟨x.toInt.toNat, by omega, ?_⟩
  apply Int32.toInt_inj.mp
  rw [lw_i _ (by omega)]
  omega
def lwP : jR → va_W → Prop := fun r _ => r = .inl (some (.int 1))
set_option maxRecDepth 20000 in
theorem law_switch {ad ae : Nat → Nat} {G : jG} {i x : Int32} {s : jU} {o : Nat} {L : Nat → Int64} {sg : jS} {k n : Nat} (hR : Rel s sg) (hin : lwIn G i) (hk : k + 4 ≤ 601024) (hn : n + 24 ≤ 7293034) (kk : ∀ (s2 : jU) (L2 : Nat → Int64) (g2 : jS), Rel s2 g2 → J G m_Law_law 9 601024 7293034 lwP 1197 [(0, .ref (G.2.1 2)), (1, .ref (ad 0)), (2, .ref (ae 0)), (3, .ref o), (4, .int i)] [] (lwW ad ae G s2 o L2 g2) (k + 4) (n + 24)) : J G m_Law_law 9 601024 7293034 lwP 39 [(0, .ref (G.2.1 2)), (1, .ref (ad 0)), (2, .ref (ae 0)), (3, .ref o), (4, .int i)] [.int x] (lwW ad ae G s o L sg) k n := by
  by_cases hb : 0 ≤ x.toInt ∧ x.toInt ≤ 21
  · obtain ⟨j, hj, hx⟩ := lw_lab x hb.1 hb.2
    subst hx
    clear hb
    match j, hj with
    | 0, _ => exact j_tabIn (pc := 39) (tgt := 140) (jd k_Law_law_0 24 rfl) (by decide) (by decide) rfl rfl (case_field Rel hin (fa_field hR (lwx G i 1)) hk hn kk)
    | 1, _ => exact j_tabIn (pc := 39) (tgt := 176) (jd k_Law_law_0 24 rfl) (by decide) (by decide) rfl rfl (case_point Rel hin (fa_point hR (lwx G i 1) (lwx G i 2)) hk hn kk)
    | 2, _ => exact j_tabIn (pc := 39) (tgt := 244) (jd k_Law_law_0 24 rfl) (by decide) (by decide) rfl rfl (case_combine Rel hin (fa_combine hR (lwx G i 1)) hk hn kk)
    | 3, _ => exact j_tabIn (pc := 39) (tgt := 300) (jd k_Law_law_0 24 rfl) (by decide) (by decide) rfl rfl (case_degree Rel hin (fa_degree hR) hk hn kk)
    | 4, _ => exact j_tabIn (pc := 39) (tgt := 313) (jd k_Law_law_0 24 rfl) (by decide) (by decide) rfl rfl (case_begin Rel hin (fa_begin hR (lwx G i 1) (lwx G i 2) (lwx G i 3)) hk hn kk)
    | 5, _ => exact j_tabIn (pc := 39) (tgt := 373) (jd k_Law_law_0 24 rfl) (by decide) (by decide) rfl rfl (case_give Rel hin (fa_give hR (lwx G i 1) (lwx G i 2) (lwx G i 3) (lwx G i 4)) hk hn kk)
    | 6, _ => exact j_tabIn (pc := 39) (tgt := 445) (jd k_Law_law_0 24 rfl) (by decide) (by decide) rfl rfl (case_fault Rel hin (fa_fault hR (lwx G i 1) (lwx G i 2) (lwx G i 3)) hk hn kk)
    | 7, _ => exact j_tabIn (pc := 39) (tgt := 505) (jd k_Law_law_0 24 rfl) (by decide) (by decide) rfl rfl (case_crash Rel hin (fa_crash hR (lwx G i 1) (lwx G i 2)) hk hn kk)
    | 8, _ => exact j_tabIn (pc := 39) (tgt := 553) (jd k_Law_law_0 24 rfl) (by decide) (by decide) rfl rfl (case_next Rel hin (fa_next hR) hk hn kk)
    | 9, _ => exact j_tabIn (pc := 39) (tgt := 597) (jd k_Law_law_0 24 rfl) (by decide) (by decide) rfl rfl (case_state Rel hin (fa_state hR) hk hn kk)
    | 10, _ => exact j_tabIn (pc := 39) (tgt := 610) (jd k_Law_law_0 24 rfl) (by decide) (by decide) rfl rfl (case_parties Rel hin (fa_parties hR (lwx G i 1)) hk hn kk)
    | 11, _ => exact j_tabIn (pc := 39) (tgt := 635) (jd k_Law_law_0 24 rfl) (by decide) (by decide) rfl rfl (case_complaints Rel hin (fa_complaints hR (lwx G i 1)) hk hn kk)
    | 12, _ => exact j_tabIn (pc := 39) (tgt := 691) (jd k_Law_law_0 24 rfl) (by decide) (by decide) rfl rfl (case_received Rel hin (fa_received hR (lwx G i 1) (lwx G i 2) (lwx G i 3)) hk hn kk)
    | 13, _ => exact j_tabIn (pc := 39) (tgt := 771) (jd k_Law_law_0 24 rfl) (by decide) (by decide) rfl rfl (case_commitment Rel hin (fa_commitment hR (lwx G i 1) (lwx G i 2) (lwx G i 3)) hk hn kk)
    | 14, _ => exact j_tabIn (pc := 39) (tgt := 851) (jd k_Law_law_0 24 rfl) (by decide) (by decide) rfl rfl (case_share Rel hin (fa_share hR (lwx G i 1) (lwx G i 2)) hk hn kk)
    | 15, _ => exact j_tabIn (pc := 39) (tgt := 919) (jd k_Law_law_0 24 rfl) (by decide) (by decide) rfl rfl (case_board Rel hin (fa_board hR) hk hn kk)
    | 16, _ => exact j_tabIn (pc := 39) (tgt := 932) (jd k_Law_law_0 24 rfl) (by decide) (by decide) rfl rfl (case_told Rel hin (fa_told hR (lwx G i 1)) hk hn kk)
    | 17, _ => exact j_tabIn (pc := 39) (tgt := 988) (jd k_Law_law_0 24 rfl) (by decide) (by decide) rfl rfl (case_digest Rel hin (fa_digest hR (lwx G i 1)) hk hn kk)
    | 18, _ => exact j_tabIn (pc := 39) (tgt := 1044) (jd k_Law_law_0 24 rfl) (by decide) (by decide) rfl rfl (case_key Rel hin (fa_key hR) hk hn kk)
    | 19, _ => exact j_tabIn (pc := 39) (tgt := 1057) (jd k_Law_law_0 24 rfl) (by decide) (by decide) rfl rfl (case_recover Rel hin (fa_recover hR (lwx G i 1)) hk hn kk)
    | 20, _ => exact j_tabIn (pc := 39) (tgt := 1113) (jd k_Law_law_0 24 rfl) (by decide) (by decide) rfl rfl (case_refresh Rel hin (fa_refresh hR) hk hn kk)
    | 21, _ => exact j_tabIn (pc := 39) (tgt := 1137) (jd k_Law_law_0 24 rfl) (by decide) (by decide) rfl rfl (case_handOn Rel hin (fa_handOn hR (lwx G i 1) (lwx G i 2) (lwx G i 3)) hk hn kk)
    | j + 22, h => exact absurd h (by omega)
  · refine j_tabOut (pc := 39) (tgt := 1197) (jd k_Law_law_0 24 rfl) (by omega) rfl ?_
    exact j_widen (by omega) (by omega) (kk s L sg hR)
set_option maxRecDepth 20000 in
theorem law_loop {ad ae : Nat → Nat} {G : jG} {o : Nat} (hL : G.2.2.1 ≤ 2560) : ∀ (m t : Nat) (s : jU) (L : Nat → Int64) (sg : jS) (k n : Nat), t + m = 513 → Rel s sg → k + 4 * m ≤ 601024 → n + 24 * m ≤ 7293034 → J G m_Law_law 9 601024 7293034 lwP 23 [(0, .ref (G.2.1 2)), (1, .ref (ad 0)), (2, .ref (ae 0)), (3, .ref o), (4, .int (Int32.ofNat (5 * t)))] [] (lwW ad ae G s o L sg) k n := by
  intro m
  induction m with
  | zero =>
    intro t s L sg k n ht hR hk hn
    refine j_iload (pc := 23) 4 (jd k_Law_law_0 13 rfl) rfl ?_
    refine j_aload_n (pc := 25) 0 (jd k_Law_law_0 14 rfl) rfl ?_
    refine j_xlen (pc := 26) (f := G.2.2.2) (L := G.2.2.1) 2 (jd k_Law_law_0 15 rfl) rfl ?_
    refine j_iconst (pc := 27) (v := 5) (jd k_Law_law_0 16 rfl) (by decide) ?_
    refine j_isub (pc := 28) (jd k_Law_law_0 17 rfl) ?_
    refine j_icmp_gt (pc := 29) (tgt := 1203) (jd k_Law_law_0 18 rfl) rfl (fun h => ?_) (fun h => absurd (lw_cond hL (by omega) h) (by omega))
    refine j_widen (k' := 601024) (n' := 7293034) (by omega) (by omega) ?_
    refine j_iconst (pc := 1203) (v := 1) (jd k_Law_law_17 36 rfl) (by decide) ?_
    exact j_iret (pc := 1204) (ty := .boolean) (jd k_Law_law_17 37 rfl) rfl rfl rfl
  | succ m ih =>
    intro t s L sg k n ht hR hk hn
    refine j_iload (pc := 23) 4 (jd k_Law_law_0 13 rfl) rfl ?_
    refine j_aload_n (pc := 25) 0 (jd k_Law_law_0 14 rfl) rfl ?_
    refine j_xlen (pc := 26) (f := G.2.2.2) (L := G.2.2.1) 2 (jd k_Law_law_0 15 rfl) rfl ?_
    refine j_iconst (pc := 27) (v := 5) (jd k_Law_law_0 16 rfl) (by decide) ?_
    refine j_isub (pc := 28) (jd k_Law_law_0 17 rfl) ?_
    refine j_icmp_gt (pc := 29) (tgt := 1203) (jd k_Law_law_0 18 rfl) rfl (fun h => ?_) (fun h => ?_)
    · refine j_widen (k' := 601024) (n' := 7293034) (by omega) (by omega) ?_
      refine j_iconst (pc := 1203) (v := 1) (jd k_Law_law_17 36 rfl) (by decide) ?_
      exact j_iret (pc := 1204) (ty := .boolean) (jd k_Law_law_17 37 rfl) rfl rfl rfl
    have hl := lw_cond hL (by omega) h
    refine j_aload_n (pc := 32) 0 (jd k_Law_law_0 19 rfl) rfl ?_
    refine j_iload (pc := 33) 4 (jd k_Law_law_0 20 rfl) rfl ?_
    refine j_xald (pc := 35) (f := G.2.2.2) (L := G.2.2.1) 2 (jd k_Law_law_0 21 rfl) rfl (lw_vp (by omega) hL) ?_
    refine j_bipush (pc := 36) (v := 31) (jd k_Law_law_0 22 rfl) (by decide) ?_
    refine j_iand (pc := 38) (jd k_Law_law_0 23 rfl) ?_
    refine law_switch hR (lw_in hL hl) (by omega) (by omega) (fun s2 L2 g2 hR2 => ?_)
    refine j_iinc (pc := 1197) (v := Int32.ofNat (5 * (t + 1))) (lv' := [(0, .ref (G.2.1 2)), (1, .ref (ad 0)), (2, .ref (ae 0)), (3, .ref o), (4, .int (Int32.ofNat (5 * (t + 1))))]) 4 (jd k_Law_law_17 34 rfl) rfl ?_ rfl (Nat.le_of_ble_eq_true rfl) rfl ?_
    · exact lw_plus (t := 5 * t) (j := 5) (by omega)
    refine j_goto (pc := 1200) (tgt := 23) (jd k_Law_law_17 35 rfl) rfl ?_
    exact ih (t + 1) s2 L2 g2 (k + 4) (n + 24) (by omega) hR2 (by omega) (by omega)
set_option maxRecDepth 100000 in
theorem law_all (G : jG) (hL : G.2.2.1 ≤ 2560) : J G m_Law_law 9 601024 7293034 lwP 0 [(0, .ref (G.2.1 2))] [] [] 0 0 := by
  obtain ⟨r, hr, hR⟩ := init_rel
  refine j_new (pc := 0) (fs := [.null, .null, .null]) (ci := 0) rfl in_SR tk_SR w86 w87 w63 df_SR (jd k_Law_law_0 0 rfl) (by decide) (by decide) (fun a => ?_)
  refine j_dup (pc := 3) (jd k_Law_law_0 1 rfl) rfl ?_
  show J G m_Law_law 9 601024 7293034 lwP 4 [(0, .ref (G.2.1 2))] [.ref a, .ref a] [(a, .inr (0, [.null, .null, .null]))] 1 3
  refine j_callI (pc := 4) (d := 9) (mc := 601024) (ms := 7293034) (k := 1) (n := 3) (st := [.ref a]) (c_SR_new G a) L0_SR_init rfl w88 w89 rfl (jd k_Law_law_0 2 rfl) rfl (Nat.le_of_ble_eq_true rfl) (by decide) (by decide) (by decide) rfl (fun E w h => by cases h.1) (fun v w h => ?_)
  obtain ⟨hv, ad, had, hm⟩ := h
  cases hv
  subst had
  refine j_cut isSR (by decide +kernel) hm ?_
  show J G m_Law_law 9 601024 7293034 lwP 7 [(0, .ref (G.2.1 2))] [.ref (ad 0)] (mkC ad G u0) 131 1920
  refine j_astore_n (pc := 7) (lv' := [(0, .ref (G.2.1 2)), (1, .ref (ad 0))]) (jd k_Law_law_0 3 rfl) rfl (Nat.le_of_ble_eq_true rfl) rfl ?_
  refine j_new (pc := 8) (fs := [.int 0, .int 0, .int 0, .null, .null, .null, .null, .null, .null, .int 0, .int 0, .int 0, .int 0, .int 0, .int 0, .int 0, .int 0, .int 0, .int 0, .null, .null, .null, .null, .int 0, .int 0, .int 0, .int 0, .int 0, .null, .null, .null, .null, .null, .null, .null, .null, .null, .null, .null, .int 0, .int 0, .null, .null, .null, .null, .null, .null, .null]) (ci := 10) rfl in_Mod tk_Mod w1044 w1045 w75 df_Mod (jd k_Law_law_0 4 rfl) (by decide) (by decide) (fun b => ?_)
  refine j_dup (pc := 11) (jd k_Law_law_0 5 rfl) rfl ?_
  show J G m_Law_law 9 601024 7293034 lwP 12 [(0, .ref (G.2.1 2)), (1, .ref (ad 0))] [.ref b, .ref b] (mkC ad G u0 ++ [(b, .inr (10, [.int 0, .int 0, .int 0, .null, .null, .null, .null, .null, .null, .int 0, .int 0, .int 0, .int 0, .int 0, .int 0, .int 0, .int 0, .int 0, .int 0, .null, .null, .null, .null, .int 0, .int 0, .int 0, .int 0, .int 0, .null, .null, .null, .null, .null, .null, .null, .null, .null, .null, .null, .int 0, .int 0, .null, .null, .null, .null, .null, .null, .null]))]) 132 1968
  refine j_callI (pc := 12) (d := 9) (mc := 601024) (ms := 7293034) (k := 132) (n := 1968) (st := [.ref b]) (jCon.frL (c_Mod_new G b r hr) (mkC ad G u0)) L0_Mod_init rfl w1046 w1047 rfl (jd k_Law_law_0 6 rfl) rfl (Nat.le_of_ble_eq_true rfl) (by decide) (by decide) (by decide) rfl (fun E w h => by obtain ⟨w0, -, h, -⟩ := h; cases h) (fun v w h => ?_)
  obtain ⟨w0, hw, hv, ae, hae, h0⟩ := h
  cases hv
  subst hae
  subst h0
  subst hw
  show J G m_Law_law 9 601024 7293034 lwP 15 [(0, .ref (G.2.1 2)), (1, .ref (ad 0))] [.ref (ae 0)] (mkC ad G u0 ++ mkR ae G r) 160 4791
  refine j_astore_n (pc := 15) (lv' := [(0, .ref (G.2.1 2)), (1, .ref (ad 0)), (2, .ref (ae 0))]) (jd k_Law_law_0 7 rfl) rfl (Nat.le_of_ble_eq_true rfl) rfl ?_
  refine j_iconst (pc := 16) (v := 1) (jd k_Law_law_0 8 rfl) (by decide) ?_
  refine j_newl (pc := 17) (N := 1) w1501 (by decide) (by decide) (by decide) (jd k_Law_law_0 9 rfl) (by decide) (by decide) (fun o => ?_)
  refine j_perm (ws' := lwW ad ae G u0 o (fun _ => 0) r) (by unfold lwW; rw [List.append_assoc, List.append_assoc]; exact List.Perm.append_left _ List.perm_append_comm) ?_
  refine j_astore_n (pc := 19) (lv' := [(0, .ref (G.2.1 2)), (1, .ref (ad 0)), (2, .ref (ae 0)), (3, .ref o)]) (jd k_Law_law_0 10 rfl) rfl (Nat.le_of_ble_eq_true rfl) rfl ?_
  refine j_iconst (pc := 20) (v := 0) (jd k_Law_law_0 11 rfl) (by decide) ?_
  refine j_istore (pc := 21) (lv' := [(0, .ref (G.2.1 2)), (1, .ref (ad 0)), (2, .ref (ae 0)), (3, .ref o), (4, .int 0)]) (jd k_Law_law_0 12 rfl) rfl (Nat.le_of_ble_eq_true rfl) rfl ?_
  exact law_loop hL 513 0 u0 (fun _ => 0) r 161 4792 rfl hR (by decide) (by decide)
