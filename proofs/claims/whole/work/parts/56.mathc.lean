/-! ===== round 4 ===== -/
def fitP (s : jU) (g : jS) (γ t i j : Nat) : Prop := (U (s 7 i j) + hh γ * U (s 8 i j)) % qg γ = hs (fun k => U (g 34 (7 * i + k))) j t % qg γ
def okP (s : jU) (g : jS) (γ n t dm i : Nat) : Prop := bt dm (i + 1) = true ∧ popc (U (s 11 i 0)) < t ∧ ∀ j, 1 ≤ j → j ≤ n → bt (U (s 11 i 0)) j = true → bt (U (g 29 i)) j = true ∧ fitP s g γ t i j
theorem I_ne_m1 {q : Nat} {x : Int32} (h : OK q x) (hq : q ≤ 2147483648) : x ≠ -1 := fun e => by
  have h1 := h.1
  have h2 := h.2
  rw [e] at h1 h2
  have : (-1 : Int32).toInt = -1 := rfl
  rw [h1, I_toInt (by omega)] at this
  omega
theorem cans_spec {s : jU} {g : jS} {γ i j : Nat} (h : rAn s g γ) (hi : i < 7) (hj : 1 ≤ j ∧ j ≤ 7) : f_Party_hasAnswered i (I j) s = some (I (if bt (U (g 29 i)) j then 1 else 0)) := by
  obtain ⟨h1, h2⟩ := (h i hi).2 (j - 1) (by omega)
  rw [show j - 1 + 1 = j from by omega] at h1 h2
  have hq := qg_b γ
  unfold f_Party_hasAnswered
  rw [if_pos (by rw [I_jin (by omega)]; omega), I_cl (by omega)]
  by_cases hb : bt (U (g 29 i)) j = true
  · rw [if_neg (I_ne_m1 (h1 hb).1.2 (by omega)), if_pos hb]; rfl
  · rw [if_pos (h2 hb), if_neg hb]; rfl
theorem out_loop {s : jU} {g : jS} {γ n t dm i : Nat} (hC : Cx s g γ n t) (hi : 1 ≤ i ∧ i ≤ n) (hD : rDe s g γ n t dm) (hcb : rCb s g n) (hA : rAn s g γ) (hd : bt dm i = true) : ∀ (d j m : Nat), j + d = n + 1 → 1 ≤ j → d < m → ((∀ j', j ≤ j' → j' ≤ n → bt (U (s 11 (i - 1) 0)) j' = true → bt (U (g 29 (i - 1))) j' = true ∧ fitP s g γ t (i - 1) j') ∧ L_Room_isOut_31 (I i) s (i - 1) m (I j) = some (.inr (I (n + 1)))) ∨ (¬ (∀ j', j ≤ j' → j' ≤ n → bt (U (s 11 (i - 1) 0)) j' = true → bt (U (g 29 (i - 1))) j' = true ∧ fitP s g γ t (i - 1) j') ∧ L_Room_isOut_31 (I i) s (i - 1) m (I j) = some (.inl 1)) := by
  obtain ⟨⟨h50, h53, h9, h10, hγ⟩, ⟨h20, h11, h21, h12, ht1, htn, hn7⟩, hT, hCo, hFa, hCr⟩ := id hC
  obtain ⟨hD1, ⟨hD2, hD3, hD4⟩, hD5, hD6⟩ := id hD
  have hq := qg_b γ
  intro d
  induction d with
  | zero =>
    intro j m hj h1 hm
    match m, hm with
    | m + 1, _ =>
      left
      refine ⟨fun j' a b => by omega, ?_⟩
      rw [L_Room_isOut_31, h20, if_pos (show I n < I j by rw [I_lt (by omega) (by omega)]; omega), show j = n + 1 from by omega]
  | succ d ih =>
    intro j m hj h1 hm
    match m, hm with
    | m + 1, hm =>
      have hj8 : jin (I j) 8 := by rw [I_jin (by omega)]; omega
      have e : L_Room_isOut_31 (I i) s (i - 1) (m + 1) (I j) = if bt (U (s 11 (i - 1) 0)) j = true then (if bt (U (g 29 (i - 1))) j = true then (Option.bind (f_Room_fits (I i) (I j) (s 7 (i - 1) j) (s 8 (i - 1) j) s) fun x29 => if ¬ x29 = 0 then L_Room_isOut_31 (I i) s (i - 1) m (I (j + 1)) else some (.inl 1)) else some (.inl 1)) else L_Room_isOut_31 (I i) s (i - 1) m (I (j + 1)) := by
        rw [L_Room_isOut_31, h20, if_neg (show ¬ I n < I j by rw [I_lt (by omega) (by omega)]; omega), ccomp_spec (hcb (i - 1) (by omega)).2.1 ⟨h1, by omega⟩, Option.bind_some, cans_spec hA (by omega) ⟨h1, by omega⟩, Option.bind_some, if_pos hj8, if_pos hj8, I_cl (by omega)]
        simp only [jlet, I1, I_add]
        by_cases hb : bt (U (s 11 (i - 1) 0)) j = true
        · rw [if_pos hb, if_pos hb, if_neg (show ¬ I 1 = 0 by decide)]
          by_cases hb2 : bt (U (g 29 (i - 1))) j = true
          · rw [if_pos hb2, if_pos hb2, if_neg (show ¬ I 1 = 0 by decide)]
          · rw [if_neg hb2, if_neg hb2, if_pos (show I 0 = 0 from rfl)]
        · rw [if_neg hb, if_neg hb, if_pos (show I 0 = 0 from rfl)]
      rw [e]
      have ihj := ih (j + 1) m (by omega) (by omega) (by omega)
      by_cases hb : bt (U (s 11 (i - 1) 0)) j = true
      · rw [if_pos hb]
        by_cases hb2 : bt (U (g 29 (i - 1))) j = true
        · rw [if_pos hb2]
          obtain ⟨⟨p1, p2⟩, ⟨p3, p4⟩⟩ := ((hA (i - 1) (by omega)).2 (j - 1) (by omega)).1 (by rw [show j - 1 + 1 = j from by omega]; exact hb2)
          rw [show j - 1 + 1 = j from by omega] at p1 p2 p3 p4
          have E3 : ∀ k < t, s 3 (i - 1) k = el γ (U (g 34 (7 * (i - 1) + k))) ∧ OK (qg γ) (g 34 (7 * (i - 1) + k)) := fun k hk => (hD4 (i - 1) (by omega) k (by omega)).1 (by rw [show i - 1 + 1 = i from by omega]; exact hd) hk
          rw [cfitsU (c := fun k => U (g 34 (7 * (i - 1) + k))) hγ h50 h21 (by omega) ⟨hi.1, by omega⟩ (by omega) (fun k hk => ⟨(E3 k hk).1, (E3 k hk).2.2⟩) (OK_mono p2 (by omega)) (OK_mono p4 (by omega)), Option.bind_some]
          by_cases hf : fitP s g γ t (i - 1) j
          · rw [if_pos (show (U (s 7 (i - 1) j) + hh γ * U (s 8 (i - 1) j)) % qg γ = hs (fun k => U (g 34 (7 * (i - 1) + k))) j t % qg γ from hf), if_pos (show ¬ (1 : Int32) = 0 by decide)]
            rcases ihj with ⟨a1, a2⟩ | ⟨a1, a2⟩
            · left
              refine ⟨fun j' x y z => ?_, a2⟩
              by_cases ej : j' = j
              · subst ej; exact ⟨hb2, hf⟩
              · exact a1 j' (by omega) y z
            · right
              exact ⟨fun x => a1 (fun j' y z w => x j' (by omega) z w), a2⟩
          · rw [if_neg (show ¬ (U (s 7 (i - 1) j) + hh γ * U (s 8 (i - 1) j)) % qg γ = hs (fun k => U (g 34 (7 * (i - 1) + k))) j t % qg γ from hf), if_neg (show ¬ ¬ (0 : Int32) = 0 from fun e => e rfl)]
            right
            exact ⟨fun x => hf (x j (Nat.le_refl _) (by omega) hb).2, rfl⟩
        · rw [if_neg hb2]
          right
          exact ⟨fun x => hb2 (x j (Nat.le_refl _) (by omega) hb).1, rfl⟩
      · rw [if_neg hb]
        rcases ihj with ⟨a1, a2⟩ | ⟨a1, a2⟩
        · left
          refine ⟨fun j' x y z => ?_, a2⟩
          by_cases ej : j' = j
          · subst ej; exact absurd z hb
          · exact a1 j' (by omega) y z
        · right
          exact ⟨fun x => a1 (fun j' y z w => x j' (by omega) z w), a2⟩
theorem popc_lt : ∀ m < 128, popc m < 8 := by decide +kernel
theorem out_spec {s : jU} {g : jS} {γ n t dm i : Nat} (hC : Cx s g γ n t) (hi : 1 ≤ i ∧ i ≤ n) (hD : rDe s g γ n t dm) (hcb : rCb s g n) (hA : rAn s g γ) : (okP s g γ n t dm (i - 1) ∧ f_Room_isOut (I i) s = some (I 0)) ∨ (¬ okP s g γ n t dm (i - 1) ∧ f_Room_isOut (I i) s = some (I 1)) := by
  obtain ⟨⟨h50, h53, h9, h10, hγ⟩, ⟨h20, h11, h21, h12, ht1, htn, hn7⟩, hT, hCo, hFa, hCr⟩ := id hC
  obtain ⟨hD1, ⟨hD2, hD3, hD4⟩, hD5, hD6⟩ := id hD
  have hc := (hcb (i - 1) (by omega)).2.1
  have hpl := popc_lt _ hc.2
  have h12' := hD3 (i - 1) (by omega)
  unfold f_Room_isOut okP
  rw [jidx_P ⟨hi.1, by omega⟩, Option.bind_some, h12', show i - 1 + 1 = i from by omega]
  by_cases hd : bt dm i = true
  · rw [if_pos hd, if_neg (show ¬ I 1 = 0 by decide)]
    have hbc := B_pop _ hc.2
    rw [← hc.1] at hbc
    rw [hbc, Option.bind_some, h21]
    by_cases hp : popc (U (s 11 (i - 1) 0)) < t
    · rw [if_pos (show I (popc (U (s 11 (i - 1) 0))) < I t by rw [I_lt (by omega) (by omega)]; exact hp)]
      rcases out_loop hC hi hD hcb hA hd n 1 jF (by omega) (by omega) (by unfold jF; omega) with ⟨a1, a2⟩ | ⟨a1, a2⟩
      · left
        refine ⟨⟨hd, hp, a1⟩, ?_⟩
        rw [show L_Room_isOut_31 (I i) s (i - 1) jF 1 = _ from a2]; rfl
      · right
        refine ⟨fun x => a1 x.2.2, ?_⟩
        rw [show L_Room_isOut_31 (I i) s (i - 1) jF 1 = _ from a2]; rfl
    · rw [if_neg (show ¬ I (popc (U (s 11 (i - 1) 0))) < I t by rw [I_lt (by omega) (by omega)]; exact hp)]
      right
      exact ⟨fun x => hp x.2.1, rfl⟩
  · rw [if_neg hd, if_pos (show I 0 = 0 from rfl)]
    right
    exact ⟨fun x => hd x.1, rfl⟩
/-- the reference's loop over the answers of i, with the verdict in the state -/
def LJ (x1 : Int32) (n : Nat) (x : Int32) (z : Int32 × jS) : Option (Int32 × (Int32 × jS)) := Option.map (fun r => (r.2.1, (r.1, r.2.2))) (L_Mod_judge_66 x1 n z.1 x z.2)
theorem take_one {s : jU} {g : jS} {γ n t dm i : Nat} {v : Nat} (hC : Cx s g γ n t) (hi : 1 ≤ i ∧ i ≤ n) (hD : rDe s g γ n t dm) (hA : rAn s g γ) (hv : v = 0 ∨ v = 1) (hvd : v = 1 → bt dm i = true) (had : ∀ j, bt (U (g 29 (i - 1))) j = true → bt dm i = true) : ∃ s' g' v', f_Room_takeAnswers (I i) s = some s' ∧ (∃ y, L_Mod_judge_66 (I i) jF (I v) 1 g = some (I v', y, g')) ∧ (v' = 1 ∨ v' = 0) ∧ (v' = 1 ↔ (v = 1 ∧ ∀ j, 1 ≤ j → j ≤ n → bt (U (g 29 (i - 1))) j = true → fitP s g γ t (i - 1) j)) ∧ FrC [5, 6] s s' ∧ FrM [30, 31] g g' ∧ rNu s' g' 5 30 γ n dm ∧ rNu s' g' 6 31 γ n dm := by
  obtain ⟨⟨-, -, -, -, hγ⟩, ⟨-, -, -, -, ht1, htn, hn7⟩, -⟩ := id hC
  obtain ⟨hD1, ⟨hD2, hD3, hD4⟩, hD5, hD6⟩ := id hD
  have hq := qg_b γ
  obtain ⟨s', z', e1, e2, -, v', c0, c1, c2, c3, c4, c5, c6⟩ := loop2 (L_Room_takeAnswers_8 (I i) (i - 1)) (LJ (I i)) (n + 1) (fun j s1 z => 1 ≤ j ∧ ∃ v', z.1 = I v' ∧ (v' = 1 ∨ v' = 0) ∧ (v' = 1 ↔ (v = 1 ∧ ∀ j', 1 ≤ j' → j' < j → bt (U (g 29 (i - 1))) j' = true → fitP s g γ t (i - 1) j')) ∧ FrC [5, 6] s s1 ∧ FrM [30, 31] g z.2 ∧ rNu s1 z.2 5 30 γ n dm ∧ rNu s1 z.2 6 31 γ n dm)
    (fun a m j s1 z hj hP => by
      obtain ⟨d0, w, d1, d2, d3, d4, d5, d6, d7⟩ := hP
      obtain ⟨x, g1⟩ := z
      simp only at d1 d5 d6 d7
      subst d1
      have hC1 := hC.fr d4 d5 (by decide) (by decide)
      obtain ⟨⟨h50, h53, h9, h10, -⟩, ⟨h20, h11, h21, h12, -⟩, hT, hCo, hFa, hCr⟩ := id hC1
      have hlt : ¬ I n < I j := by rw [I_lt (by omega) (by omega)]; omega
      have y29 : g1 29 = g 29 := d5 29 (by decide)
      have y32 : g1 32 = g 32 := d5 32 (by decide)
      have y33 : g1 33 = g 33 := d5 33 (by decide)
      have y34 : g1 34 = g 34 := d5 34 (by decide)
      have x7 : s1 7 = s 7 := d4 7 (by decide)
      have x8 : s1 8 = s 8 := d4 8 (by decide)
      have hA1 : rAn s1 g1 γ := by
        unfold rAn at *
        rw [x7, x8, y29, y32, y33]; exact hA
      have hi7 : jin (I i - 1) 7 := by rw [I1, I_sub hi.1, I_jin (by omega)]; omega
      have hicl : (I i - 1).toNatClampNeg = i - 1 := by rw [I1, I_sub hi.1, I_cl (by omega)]
      have hj8 : jin (I j) 8 := by rw [I_jin (by omega)]; omega
      have hi8 : jin (I i) 8 := by rw [I_jin (by omega)]; omega
      have hk49 : jin (I (7 * (i - 1) + (j - 1))) 49 := by rw [I_jin (by omega)]; omega
      have h29 := (hA (i - 1) (by omega)).1
      have ca := cans_spec hA1 (show i - 1 < 7 by omega) ⟨d0, show j ≤ 7 by omega⟩
      rw [y29] at ca
      have ma : f_Mod_in (g1 29 (i - 1)) (I j) = some (I (if bt (U (g 29 (i - 1))) j then 1 else 0)) := by
        rw [y29, h29.1, min_spec h29.2 d0 (by omega), ← h29.1]
      by_cases hb : bt (U (g 29 (i - 1))) j = true
      · have hdi := had j hb
        obtain ⟨⟨p1, p2⟩, ⟨p3, p4⟩⟩ := ((hA (i - 1) (by omega)).2 (j - 1) (by omega)).1 (by rw [show j - 1 + 1 = j from by omega]; exact hb)
        rw [show j - 1 + 1 = j from by omega] at p1 p2 p3 p4
        have E3 : ∀ k < t, s 3 (i - 1) k = el γ (U (g 34 (7 * (i - 1) + k))) ∧ OK (qg γ) (g 34 (7 * (i - 1) + k)) := fun k hk => (hD4 (i - 1) (by omega) k (by omega)).1 (by rw [show i - 1 + 1 = i from by omega]; exact hdi) hk
        have mf : f_Mod_fits (I i) (I j) (g1 32 (7 * (i - 1) + (j - 1))) (g1 33 (7 * (i - 1) + (j - 1))) g1 = some (if (U (s 7 (i - 1) j) + hh γ * U (s 8 (i - 1) j)) % qg γ = hs (fun k => U (g 34 (7 * (i - 1) + k))) j t % qg γ then 1 else 0) := by
          rw [y32, y33, p1, p3]
          exact mfitsU (c := fun k => U (g 34 (7 * (i - 1) + k))) hγ h9 (hT.2.2.1 γ hγ) h10 h12 (by omega) ⟨hi.1, by omega⟩ (by omega) (fun k hk => by rw [y34]; exact ⟨(E3 k hk).2.1, (E3 k hk).2.2⟩) (OK_mono p2 (by omega)) (OK_mono p4 (by omega))
        have hw : ∃ w', (w' = 1 ∨ w' = 0) ∧ (w' = 1 ↔ w = 1 ∧ fitP s g γ t (i - 1) j) ∧ (if I w = 0 then some (0 : Int32) else Option.bind (f_Mod_fits (I i) (I j) (g1 32 (7 * (i - 1) + (j - 1))) (g1 33 (7 * (i - 1) + (j - 1))) g1) fun x32 => if x32 = 0 then some 0 else some 1) = some (I w') := by
          rw [mf, Option.bind_some]
          rcases d2 with rfl | rfl
          · rw [if_neg (show ¬ I 1 = 0 by decide)]
            by_cases hf : fitP s g γ t (i - 1) j
            · refine ⟨1, Or.inl rfl, ⟨fun _ => ⟨rfl, hf⟩, fun _ => rfl⟩, ?_⟩
              rw [if_pos (show (U (s 7 (i - 1) j) + hh γ * U (s 8 (i - 1) j)) % qg γ = hs (fun k => U (g 34 (7 * (i - 1) + k))) j t % qg γ from hf)]; rfl
            · refine ⟨0, Or.inr rfl, ⟨fun e => by omega, fun e => absurd e.2 hf⟩, ?_⟩
              rw [if_neg (show ¬ (U (s 7 (i - 1) j) + hh γ * U (s 8 (i - 1) j)) % qg γ = hs (fun k => U (g 34 (7 * (i - 1) + k))) j t % qg γ from hf)]; rfl
          · exact ⟨0, Or.inr rfl, ⟨fun e => by omega, fun e => by omega⟩, rfl⟩
        obtain ⟨w', hw1, hw2, hw3⟩ := hw
        refine ⟨ups (ups s1 5 (j - 1) (upd (s1 5 (j - 1)) i (s 7 (i - 1) j))) 6 (j - 1) (upd (s1 6 (j - 1)) i (s 8 (i - 1) j)), (I w', va_up (va_up g1 30 (upd (g1 30) (7 * (i - 1) + (j - 1)) (s 7 (i - 1) j))) 31 (upd (g1 31) (7 * (i - 1) + (j - 1)) (s 8 (i - 1) j))), ⟨by omega, w', rfl, hw1, ?_, ?_, ?_, ?_, ?_⟩, ?_, ?_⟩
        · rw [hw2, d3]
          constructor
          · rintro ⟨⟨a1, a2⟩, a3⟩
            refine ⟨a1, fun j' b1 b2 b3 => ?_⟩
            by_cases ej : j' = j
            · subst ej; exact a3
            · exact a2 j' b1 (by omega) b3
          · rintro ⟨a1, a2⟩
            exact ⟨⟨a1, fun j' b1 b2 b3 => a2 j' b1 (by omega) b3⟩, a2 j d0 (by omega) hb⟩
        · exact (d4.tr (FrC.up (l := [5]) (by simp)) (fun _ h => h) (by decide)).tr (FrC.up (l := [6]) (by simp)) (fun _ h => h) (by decide)
        · exact (d5.tr (FrM.up (l := [30]) (by simp)) (fun _ h => h) (by decide)).tr (FrM.up (l := [31]) (by simp)) (fun _ h => h) (by decide)
        · intro x hx y hy
          dsimp only
          rw [ups_nK (show 5 ≠ 6 by decide), vu_ne (show 30 ≠ 31 by decide), vu_eq]
          by_cases ey : y = j - 1
          · subst ey
            rw [ups_eq]
            by_cases ex : x + 1 = i
            · rw [ex, show x = i - 1 from by omega, upd_eq, upd_eq]
              exact ⟨fun _ _ => ⟨rfl, p2⟩, fun hn => absurd ⟨hdi, by omega⟩ hn⟩
            · rw [upd_ne ex, upd_ne (by omega)]; exact d6 x hx (j - 1) hy
          · rw [ups_ni ey, upd_ne (by omega)]; exact d6 x hx y hy
        · intro x hx y hy
          dsimp only
          rw [vu_eq]
          by_cases ey : y = j - 1
          · subst ey
            rw [ups_eq]
            by_cases ex : x + 1 = i
            · rw [ex, show x = i - 1 from by omega, upd_eq, upd_eq]
              exact ⟨fun _ _ => ⟨rfl, p4⟩, fun hn => absurd ⟨hdi, by omega⟩ hn⟩
            · rw [upd_ne ex, upd_ne (by omega)]; exact d7 x hx (j - 1) hy
          · rw [ups_ni ey, ups_ni ey, upd_ne (by omega)]; exact d7 x hx y hy
        · rw [L_Room_takeAnswers_8, h20, if_neg hlt, ca, Option.bind_some, if_pos hb, if_neg (show ¬ I 1 = 0 by decide), jidx_P ⟨d0, by omega⟩, Option.bind_some, if_pos hj8, if_pos hi8, I_cl (show i < 2147483648 by omega), I_cl (show j < 2147483648 by omega)]
          simp only [jlet, Option.bind_some]
          rw [if_pos hj8, if_pos hi8, Option.bind_some, show I j + 1 = I (j + 1) from I_add j 1]
          show L_Room_takeAnswers_8 (I i) (i - 1) a (I (j + 1)) (ups (ups s1 5 (j - 1) (upd (s1 5 (j - 1)) i (s1 7 (i - 1) j))) 6 (j - 1) (upd (s1 6 (j - 1)) i (s1 8 (i - 1) j))) = _
          rw [x7, x8]
        · show Option.map _ (L_Mod_judge_66 (I i) (m + 1) (I w) (I j) g1) = Option.map _ _
          congr 1
          rw [L_Mod_judge_66, h11, if_neg hlt, if_pos hi7, hicl, ma, Option.bind_some, if_pos hb, if_pos (show ¬ I 1 = 0 by decide)]
          simp only [f_Mod_at, ix8 hi.1 d0, Option.bind_some]
          rw [if_pos hk49, I_cl (show 7 * (i - 1) + (j - 1) < 2147483648 by omega), if_pos hk49, hw3, Option.bind_some, if_pos hk49, if_pos hk49]
          simp only [jlet]
          rw [if_pos hk49, if_pos hk49, Option.bind_some, show I j + 1 = I (j + 1) from I_add j 1]
          show L_Mod_judge_66 (I i) m (I w') (I (j + 1)) (va_up (va_up g1 30 (upd (g1 30) (7 * (i - 1) + (j - 1)) (g1 32 (7 * (i - 1) + (j - 1))))) 31 (upd (g1 31) (7 * (i - 1) + (j - 1)) (g1 33 (7 * (i - 1) + (j - 1))))) = _
          rw [y32, y33, p1, p3]
      · refine ⟨s1, (I w, g1), ⟨by omega, w, rfl, d2, ?_, d4, d5, d6, d7⟩, ?_, ?_⟩
        · rw [d3]
          constructor
          · rintro ⟨a1, a2⟩
            refine ⟨a1, fun j' b1 b2 b3 => ?_⟩
            by_cases ej : j' = j
            · subst ej; exact absurd b3 hb
            · exact a2 j' b1 (by omega) b3
          · rintro ⟨a1, a2⟩
            exact ⟨a1, fun j' b1 b2 b3 => a2 j' b1 (by omega) b3⟩
        · rw [L_Room_takeAnswers_8, h20, if_neg hlt, ca, Option.bind_some, if_neg hb, if_pos (show I 0 = 0 from rfl)]
          simp only [jlet, I1, I_add, Option.bind_some]
        · show Option.map _ (L_Mod_judge_66 (I i) (m + 1) (I w) (I j) g1) = Option.map _ _
          congr 1
          rw [L_Mod_judge_66, h11, if_neg hlt, if_pos hi7, hicl, ma, Option.bind_some, if_neg hb, if_neg (show ¬ ¬ I 0 = 0 from fun e => e rfl)]
          simp only [jlet, I1, I_add, Option.bind_some])
    (fun a m s1 z hP => by
      obtain ⟨d0, w, d1, d2, d3, d4, d5, d6, d7⟩ := hP
      obtain ⟨-, ⟨h20, h11, -⟩, -⟩ := hC.fr d4 d5 (by decide) (by decide)
      have hlt : I n < I (n + 1) := by rw [I_lt (by omega) (by omega)]; omega
      refine ⟨?_, ?_⟩
      · rw [L_Room_takeAnswers_8, h20, if_pos hlt]
      · unfold LJ
        rw [L_Mod_judge_66, h11, if_pos hlt]; rfl) n 1 jF jF s (I v, g) (by omega) (by unfold jF; omega) (by unfold jF; omega) ⟨by omega, v, rfl, by omega, ⟨fun e => ⟨e, fun j' a b => by omega⟩, fun e => e.1⟩, FrC.rf, FrM.rf, hD5, hD6⟩
  obtain ⟨x, g'⟩ := z'
  simp only at c0 c4 c5 c6
  subst c0
  refine ⟨s', g', v', ?_, ?_, c1, ?_, c3, c4, c5, c6⟩
  · unfold f_Room_takeAnswers
    rw [jidx_P ⟨hi.1, by omega⟩, Option.bind_some, show L_Room_takeAnswers_8 (I i) (i - 1) jF 1 s = _ from e1]; rfl
  · have e3 : Option.map (fun r : Int32 × Int32 × jS => (r.2.1, (r.1, r.2.2))) (L_Mod_judge_66 (I i) jF (I v) 1 g) = some (I (n + 1), (I v', g')) := e2
    cases hL : L_Mod_judge_66 (I i) jF (I v) 1 g with
    | none => rw [hL] at e3; cases e3
    | some r =>
      rw [hL] at e3
      obtain ⟨r1, r2, r3⟩ := r
      simp at e3
      obtain ⟨q1, q2, q3⟩ := e3
      exact ⟨r2, by rw [q2, q3]⟩
  · rw [c2]
    constructor
    · rintro ⟨a1, a2⟩
      exact ⟨a1, fun j b1 b2 b3 => a2 j b1 (by omega) b3⟩
    · rintro ⟨a1, a2⟩
      exact ⟨a1, fun j b1 b2 b3 => a2 j b1 (by omega) b3⟩

/-- the sum of what j has of the qualified -/
def qs (m : Nat) (f : Nat → Nat) : Nat → Nat
  | 0 => 0
  | i + 1 => qs m f i + (if bt m (i + 1) = true then f i else 0)
theorem cqual_spec {s : jU} {m x : Nat} (h : s 24 0 0 = I m) (hm : m < 128) (hx : 1 ≤ x ∧ x ≤ 7) : f_Room_isQualified (I x) s = some (I (if bt m x then 1 else 0)) := by
  unfold f_Room_isQualified f_SR_bit
  rw [B_bit hx.1 (by omega), Option.bind_some, h]
  have e := B_tst m hm (x - 1) (by omega)
  by_cases hb : bt m x = true
  · have hn : ¬ m.testBit (x - 1) = false := by unfold bt at hb; rw [hb]; decide
    rw [if_neg (fun he => hn (e.mp he)), if_pos hb]; rfl
  · have hn : m.testBit (x - 1) = false := by unfold bt at hb; simpa using hb
    rw [if_pos (e.mpr hn), if_neg hb]; rfl
theorem csum_loop {s : jU} {γ n m p w : Nat} (hγ : γ < 2) (h53 : s 53 0 0 = I (1 + γ)) (h20 : s 20 0 0 = I n) (hn : n ≤ 7) (hm : m < 128) (h24 : s 24 0 0 = I m) (hp : 1 ≤ p ∧ p ≤ 7) (hw : w < 2) (hv : ∀ i < n, bt m (i + 1) = true → OK (qg γ) (s (5 + w) (p - 1) (i + 1))) : ∀ (d i k a : Nat), i + d = n → d < k → a = qs m (fun x => U (s (5 + w) (p - 1) (x + 1))) i % qg γ → L_Room_sumUp_5 (I p) (I w) s k (I a) (I (i + 1)) = some (I (qs m (fun x => U (s (5 + w) (p - 1) (x + 1))) n % qg γ), I (n + 1)) := by
  have hq := qg_b γ
  intro d
  induction d with
  | zero =>
    intro i k a hi hk ha
    match k, hk with
    | k + 1, _ =>
      have e : i = n := by omega
      subst e
      rw [L_Room_sumUp_5, h20, if_pos (show I i < I (i + 1) by rw [I_lt (by omega) (by omega)]; omega), ha]
  | succ d ih =>
    intro i k a hi hk ha
    match k, hk with
    | k + 1, hk =>
      have hal : a < qg γ := by rw [ha]; exact Nat.mod_lt _ (by omega)
      rw [L_Room_sumUp_5, h20, if_neg (show ¬ I n < I (i + 1) by rw [I_lt (by omega) (by omega)]; omega), cqual_spec h24 hm ⟨by omega, by omega⟩, Option.bind_some, jidx_P hp, Option.bind_some, jidx_I hw (by omega), Option.bind_some, if_pos (show jin (I (i + 1)) 8 by rw [I_jin (by omega)]; omega), I_cl (by omega), show I (i + 1) + 1 = I (i + 1 + 1) from I_add (i + 1) 1]
      by_cases hb : bt m (i + 1) = true
      · have ho := hv i (by omega) hb
        have ho2 := ho.2
        rw [if_pos hb, if_neg (show ¬ I 1 = 0 by decide), ho.1, h53, fnum_q hγ, F_pl hγ (by omega) (by omega), Option.bind_some, Option.bind_some]
        simp only [jlet]
        refine ih (i + 1) k _ (by omega) (by omega) ?_
        rw [show qs m (fun x => U (s (5 + w) (p - 1) (x + 1))) (i + 1) = qs m (fun x => U (s (5 + w) (p - 1) (x + 1))) i + U (s (5 + w) (p - 1) (i + 1)) from by rw [qs, if_pos hb], ha]
        exact (Cg.md (qg γ) _).ad Cg.rf
      · rw [if_neg hb, if_pos (show I 0 = 0 from rfl), Option.bind_some]
        simp only [jlet]
        refine ih (i + 1) k _ (by omega) (by omega) ?_
        rw [show qs m (fun x => U (s (5 + w) (p - 1) (x + 1))) (i + 1) = qs m (fun x => U (s (5 + w) (p - 1) (x + 1))) i from by rw [qs, if_neg hb]; rfl, ha]
theorem csum_spec {s : jU} {γ n m p w : Nat} (hγ : γ < 2) (h53 : s 53 0 0 = I (1 + γ)) (h20 : s 20 0 0 = I n) (hn : n ≤ 7) (hm : m < 128) (h24 : s 24 0 0 = I m) (hp : 1 ≤ p ∧ p ≤ 7) (hw : w < 2) (hv : ∀ i < n, bt m (i + 1) = true → OK (qg γ) (s (5 + w) (p - 1) (i + 1))) : f_Room_sumUp (I p) (I w) s = some (ups s 9 (p - 1) (upd (s 9 (p - 1)) w (I (qs m (fun x => U (s (5 + w) (p - 1) (x + 1))) n % qg γ)))) := by
  have hq := qg_b γ
  unfold f_Room_sumUp
  rw [show L_Room_sumUp_5 (I p) (I w) s jF 0 1 = _ from csum_loop hγ h53 h20 hn hm h24 hp hw hv n 0 jF 0 (by omega) (by unfold jF; omega) (by rw [qs]; exact (Nat.zero_mod _).symm), Option.bind_some]
  simp only
  rw [jidx_P hp, Option.bind_some, if_pos (by rw [I_jin (by omega)]; omega), I_cl (by omega)]; rfl
theorem msum_loop {g : jS} {s : jU} {γ n m p : Nat} (h10 : g 10 0 = I (qg γ)) (h11 : g 11 0 = I n) (hn : n ≤ 7) (hm : m < 128) (h25 : g 25 0 = I m) (hp : 1 ≤ p ∧ p ≤ 7) (hv : ∀ i < n, bt m (i + 1) = true → (g 30 (7 * i + (p - 1)) = s 5 (p - 1) (i + 1) ∧ OK (qg γ) (s 5 (p - 1) (i + 1))) ∧ (g 31 (7 * i + (p - 1)) = s 6 (p - 1) (i + 1) ∧ OK (qg γ) (s 6 (p - 1) (i + 1)))) : ∃ g', L_Mod_judge_241 (I p) jF 1 (va_up (va_up g 36 (upd (g 36) (p - 1) 0)) 37 (upd (g 37) (p - 1) 0)) = some (I (n + 1), g') ∧ FrM [36, 37] g g' ∧ g' 36 = upd (g 36) (p - 1) (I (qs m (fun x => U (s 5 (p - 1) (x + 1))) n % qg γ)) ∧ g' 37 = upd (g 37) (p - 1) (I (qs m (fun x => U (s 6 (p - 1) (x + 1))) n % qg γ)) := by
  have hq := qg_b γ
  obtain ⟨g', e, -, c1, c2, c3⟩ := loopU (L_Mod_judge_241 (I p)) (n + 1) (fun i g1 => 1 ≤ i ∧ FrM [36, 37] g g1 ∧ g1 36 = upd (g 36) (p - 1) (I (qs m (fun x => U (s 5 (p - 1) (x + 1))) (i - 1) % qg γ)) ∧ g1 37 = upd (g 37) (p - 1) (I (qs m (fun x => U (s 6 (p - 1) (x + 1))) (i - 1) % qg γ)))
    (fun k i g1 hi hP => by
      obtain ⟨d0, d1, d2, d3⟩ := hP
      have hp7 : jin (I p - 1) 7 := by rw [I1, I_sub hp.1, I_jin (by omega)]; omega
      have hpcl : (I p - 1).toNatClampNeg = p - 1 := by rw [I1, I_sub hp.1, I_cl (by omega)]
      have hk49 : jin (I (7 * (i - 1) + (p - 1))) 49 := by rw [I_jin (by omega)]; omega
      have hqn : ¬ I (qg γ) = 0 := by rw [I0, I_eq (by omega) (by omega)]; omega
      have k10 : g1 10 0 = I (qg γ) := by rw [d1 10 (by decide)]; exact h10
      have k11 : g1 11 0 = I n := by rw [d1 11 (by decide)]; exact h11
      have k25 : g1 25 0 = I m := by rw [d1 25 (by decide)]; exact h25
      have hqs : ∀ f, qs m f i = qs m f (i - 1) + (if bt m i = true then f (i - 1) else 0) := fun f => by
        rw [show i = i - 1 + 1 from by omega]; rfl
      have hl : ∀ f, qs m f (i - 1) % qg γ < qg γ := fun f => Nat.mod_lt _ (by omega)
      have hl5 := hl (fun x => U (s 5 (p - 1) (x + 1)))
      have hl6 := hl (fun x => U (s 6 (p - 1) (x + 1)))
      by_cases hb : bt m i = true
      · obtain ⟨⟨u1, u2⟩, ⟨u3, u4⟩⟩ := hv (i - 1) (by omega) (by rw [show i - 1 + 1 = i from by omega]; exact hb)
        rw [show i - 1 + 1 = i from by omega] at u1 u2 u3 u4
        have u2' := u2.2
        have u4' := u4.2
        refine ⟨va_up (va_up g1 36 (upd (g1 36) (p - 1) (I (qs m (fun x => U (s 5 (p - 1) (x + 1))) i % qg γ)))) 37 (upd (g1 37) (p - 1) (I (qs m (fun x => U (s 6 (p - 1) (x + 1))) i % qg γ))), ⟨by omega, ?_, ?_, ?_⟩, ?_⟩
        · exact (d1.tr (FrM.up (l := [36]) (by simp)) (fun _ h => h) (by decide)).tr (FrM.up (l := [37]) (by simp)) (fun _ h => h) (by decide)
        · rw [vu_ne (show 36 ≠ 37 by decide), vu_eq, d2, show i + 1 - 1 = i from by omega]
          funext x
          by_cases ex : x = p - 1
          · subst ex; rw [upd_eq, upd_eq]
          · rw [upd_ne ex, upd_ne ex, upd_ne ex]
        · rw [vu_eq, d3, show i + 1 - 1 = i from by omega]
          funext x
          by_cases ex : x = p - 1
          · subst ex; rw [upd_eq, upd_eq]
          · rw [upd_ne ex, upd_ne ex, upd_ne ex]
        · have v5 : jrem (g1 36 (p - 1) + g1 30 (7 * (i - 1) + (p - 1))) (I (qg γ)) = I (qs m (fun x => U (s 5 (p - 1) (x + 1))) i % qg γ) := by
            rw [d2, upd_eq, d1 30 (by decide), u1, u2.1, I_add, I_rem (by omega) (by omega), hqs, if_pos hb]
            exact congrArg I (by rw [show i - 1 + 1 = i from by omega, Nat.mod_add_mod])
          have v6 : jrem (g1 37 (p - 1) + g1 31 (7 * (i - 1) + (p - 1))) (I (qg γ)) = I (qs m (fun x => U (s 6 (p - 1) (x + 1))) i % qg γ) := by
            rw [d3, upd_eq, d1 31 (by decide), u3, u4.1, I_add, I_rem (by omega) (by omega), hqs, if_pos hb]
            exact congrArg I (by rw [show i - 1 + 1 = i from by omega, Nat.mod_add_mod])
          rw [L_Mod_judge_241, k11, if_neg (show ¬ I n < I i by rw [I_lt (by omega) (by omega)]; omega), k25, min_spec hm d0 (by omega), Option.bind_some, if_pos hb, if_pos (show ¬ I 1 = 0 by decide), if_pos hp7, hpcl]
          simp only [f_Mod_at, ix8 d0 hp.1, Option.bind_some, jlet]
          rw [if_pos hk49, k10, if_pos hqn, if_pos hp7, I_cl (show 7 * (i - 1) + (p - 1) < 2147483648 by omega), v5, if_pos hp7, if_pos hk49]
          show (if ¬ g1 10 0 = 0 then if jin (I p - 1) 7 then some (va_up (va_up g1 36 (upd (g1 36) (p - 1) (I (qs m (fun x => U (s 5 (p - 1) (x + 1))) i % qg γ)))) 37 (upd (g1 37) (p - 1) (jrem (g1 37 (p - 1) + g1 31 (7 * (i - 1) + (p - 1))) (g1 10 0)))) else none else none).bind _ = _
          rw [k10, if_pos hqn, if_pos hp7, v6, Option.bind_some, I1, I_add]
      · refine ⟨g1, ⟨by omega, d1, ?_, ?_⟩, ?_⟩
        · rw [d2, show i + 1 - 1 = i from by omega, hqs, if_neg hb]; rfl
        · rw [d3, show i + 1 - 1 = i from by omega, hqs, if_neg hb]; rfl
        · rw [L_Mod_judge_241, k11, if_neg (show ¬ I n < I i by rw [I_lt (by omega) (by omega)]; omega), k25, min_spec hm d0 (by omega), Option.bind_some, if_neg hb, if_neg (show ¬ ¬ I 0 = 0 from fun e => e rfl)]
          simp only [jlet, I1, I_add, Option.bind_some])
    (fun k g1 hP => by
      obtain ⟨d0, d1, -⟩ := hP
      rw [L_Mod_judge_241, d1 11 (by decide), h11, if_pos (show I n < I (n + 1) by rw [I_lt (by omega) (by omega)]; omega)]) n 1 jF (va_up (va_up g 36 (upd (g 36) (p - 1) 0)) 37 (upd (g 37) (p - 1) 0)) (by omega) (by unfold jF; omega) ⟨by omega, (FrM.up (l := [36, 37]) (by simp)).tr (FrM.up (l := [36, 37]) (by simp)) (fun _ h => h) (fun _ h => h), by rw [show qs m (fun x => U (s 5 (p - 1) (x + 1))) (1 - 1) = 0 from rfl, Nat.zero_mod]; rfl, by rw [show qs m (fun x => U (s 6 (p - 1) (x + 1))) (1 - 1) = 0 from rfl, Nat.zero_mod]; rfl⟩
  exact ⟨g', e, c1, c2, c3⟩

theorem bits_eq {a b n : Nat} (ha : a < 2 ^ n) (hb : b < 2 ^ n) (h : ∀ j, 1 ≤ j → j ≤ n → bt a j = bt b j) : a = b := by
  apply Nat.eq_of_testBit_eq
  intro i
  by_cases hi : i < n
  · exact h (i + 1) (by omega) (by omega)
  · rw [Nat.testBit_lt_two_pow (Nat.lt_of_lt_of_le ha (Nat.pow_le_pow_right (by decide) (by omega))), Nat.testBit_lt_two_pow (Nat.lt_of_lt_of_le hb (Nat.pow_le_pow_right (by decide) (by omega)))]
theorem sub_ltn {a b n : Nat} (hb : b < 2 ^ n) (h : ∀ j, bt a j = true → bt b j = true) : a < 2 ^ n := by
  apply Nat.lt_pow_two_of_testBit
  intro i hi
  have h2 := Nat.testBit_lt_two_pow (Nat.lt_of_lt_of_le hb (Nat.pow_le_pow_right (show 0 < 2 by decide) hi))
  cases e : a.testBit i with
  | false => rfl
  | true =>
    have := h (i + 1) e
    unfold bt at this
    rw [show i + 1 - 1 = i from by omega, h2] at this; cases this
theorem round4a {s : jU} {g : jS} {γ n t dm : Nat} (hC : Cx s g γ n t) (hD : rDe s g γ n t dm) (hcb : rCb s g n) (hcd : ∀ i < 7, bt dm (i + 1) = false → s 11 i 0 = I 0) (hA : rAn s g γ) (hsb : rSb s g) (h24 : s 24 0 0 = I 0) (h25 : g 25 0 = I 0) : ∃ s' g' qm, L_Room_judgeAll_2 jF 1 s = some (I (n + 1), s') ∧ L_Mod_judge_2 jF 1 g = some (I (n + 1), g') ∧ FrC [5, 6, 24] s s' ∧ FrM [25, 30, 31] g g' ∧ rNu s' g' 5 30 γ n dm ∧ rNu s' g' 6 31 γ n dm ∧ qm < 128 ∧ s' 24 0 0 = I qm ∧ g' 25 0 = I qm ∧ (∀ i, bt qm (i + 1) = true → bt dm (i + 1) = true) := by
  obtain ⟨⟨-, -, -, -, hγ⟩, ⟨-, -, -, -, ht1, htn, hn7⟩, -⟩ := id hC
  obtain ⟨hD1, ⟨hD2, hD3, hD4⟩, hD5, hD6⟩ := id hD
  obtain ⟨s', g', e1, e2, -, c1, c2, c3, c4, qm, c5, c6, c7, c8⟩ := loop2 L_Room_judgeAll_2 L_Mod_judge_2 (n + 1) (fun i s1 g1 => 1 ≤ i ∧ FrC [5, 6, 24] s s1 ∧ FrM [25, 30, 31] g g1 ∧ rNu s1 g1 5 30 γ n dm ∧ rNu s1 g1 6 31 γ n dm ∧ ∃ qm, qm < 128 ∧ s1 24 0 0 = I qm ∧ g1 25 0 = I qm ∧ (∀ i, bt qm (i + 1) = true → bt dm (i + 1) = true))
    (fun a m i s1 g1 hi hP => by
      obtain ⟨d0, d1, d2, d3, d4, qm, d5, d6, d7, d8⟩ := hP
      have hC1 := hC.fr d1 d2 (by decide) (by decide)
      obtain ⟨⟨h50, h53, h9, h10, -⟩, ⟨h20, h11, h21, h12, -⟩, hT, hCo, hFa, hCr⟩ := id hC1
      have x11 : s1 11 = s 11 := d1 11 (by decide)
      have y28 : g1 28 = g 28 := d2 28 (by decide)
      have y29 : g1 29 = g 29 := d2 29 (by decide)
      have hcb1 : rCb s1 g1 n := by unfold rCb at *; rw [x11, y28]; exact hcb
      have hA1 : rAn s1 g1 γ := by
        unfold rAn at *
        rw [d1 7 (by decide), d1 8 (by decide), y29, d2 32 (by decide), d2 33 (by decide)]; exact hA
      have hD1' : rDe s1 g1 γ n t dm := by
        refine ⟨by rw [d2 23 (by decide)]; exact hD1, ?_, d3, d4⟩
        unfold rEl
        rw [d1 3 (by decide), d1 12 (by decide), d2 34 (by decide)]; exact ⟨hD2, hD3, hD4⟩
      have hlt : ¬ I n < I i := by rw [I_lt (by omega) (by omega)]; omega
      have hi7 : jin (I i - 1) 7 := by rw [I1, I_sub d0, I_jin (by omega)]; omega
      have hicl : (I i - 1).toNatClampNeg = i - 1 := by rw [I1, I_sub d0, I_cl (by omega)]
      obtain ⟨q1, q2, q3⟩ := hcb1 (i - 1) (by omega)
      have q4 := (hA1 (i - 1) (by omega)).1
      have hpl := popc_lt _ q2.2
      have hsb1 : ∀ j, bt (U (g1 29 (i - 1))) j = true → bt (U (s1 11 (i - 1) 0)) j = true := fun j hj => by
        by_cases h0 : 1 ≤ j ∧ j ≤ 7
        · have := hsb (i - 1) (by omega) (j - 1) (by omega)
          rw [show j - 1 + 1 = j from by omega] at this
          rw [x11]; rw [y29] at hj; exact this hj
        · by_cases hj0 : j = 0
          · subst hj0
            have := hsb (i - 1) (by omega) 0 (by omega)
            rw [x11]; rw [y29] at hj; exact this hj
          · exfalso
            unfold bt at hj
            rw [Nat.testBit_lt_two_pow (Nat.lt_of_lt_of_le q4.2 (show 128 ≤ 2 ^ (j - 1) from Nat.pow_le_pow_right (n := 2) (by decide) (show 7 ≤ j - 1 by omega)))] at hj
            cases hj
      have h29n : U (g1 29 (i - 1)) < 2 ^ n := sub_ltn q3 hsb1
      -- the first verdict of the reference
      have hv0 : ∃ v, (v = 0 ∨ v = 1) ∧ (v = 1 ↔ bt dm i = true ∧ popc (U (s1 11 (i - 1) 0)) < t ∧ U (g1 29 (i - 1)) = U (s1 11 (i - 1) 0)) ∧ (Option.bind (f_Mod_in (g1 23 0) (I i)) fun x4 => if x4 = 0 then some (0 : Int32) else if jin (I i - 1) 7 then Option.bind (f_Mod_bits (g1 28 (I i - 1).toNatClampNeg)) fun x8 => if g1 12 0 ≤ x8 then some 0 else if jin (I i - 1) 7 then if jin (I i - 1) 7 then if ¬ g1 29 (I i - 1).toNatClampNeg = g1 28 (I i - 1).toNatClampNeg then some 0 else some 1 else none else none else none) = some (I v) := by
        have hbits : f_Mod_bits (g1 28 (i - 1)) = some (I (popc (U (s1 11 (i - 1) 0)))) := by
          have := B_bits _ q2.2
          rw [q1]; rw [← q2.1] at this; exact this
        rw [hicl, d2 23 (by decide), hD1, min_spec hD2 d0 (by omega), Option.bind_some, if_pos hi7, hbits, Option.bind_some, h12, if_pos hi7, if_pos hi7]
        by_cases hd : bt dm i = true
        · rw [if_pos hd, if_neg (show ¬ I 1 = 0 by decide)]
          by_cases hp : popc (U (s1 11 (i - 1) 0)) < t
          · rw [if_neg (show ¬ I t ≤ I (popc (U (s1 11 (i - 1) 0))) by rw [I_le (by omega) (by omega)]; omega)]
            by_cases he : g1 29 (i - 1) = g1 28 (i - 1)
            · rw [if_neg (fun h => h he)]
              exact ⟨1, Or.inr rfl, ⟨fun _ => ⟨hd, hp, by rw [he, q1]⟩, fun _ => rfl⟩, rfl⟩
            · rw [if_pos he]
              refine ⟨0, Or.inl rfl, ⟨fun e => by omega, fun e => ?_⟩, rfl⟩
              exfalso
              apply he
              rw [q1, q2.1, q4.1, e.2.2]
          · rw [if_pos (show I t ≤ I (popc (U (s1 11 (i - 1) 0))) by rw [I_le (by omega) (by omega)]; omega)]
            exact ⟨0, Or.inl rfl, ⟨fun e => by omega, fun e => absurd e.2.1 hp⟩, rfl⟩
        · rw [if_neg hd, if_pos (show I 0 = 0 from rfl)]
          exact ⟨0, Or.inl rfl, ⟨fun e => by omega, fun e => absurd e.1 hd⟩, rfl⟩
      obtain ⟨v, hv1, hv2, hv3⟩ := hv0
      have had : ∀ j, bt (U (g1 29 (i - 1))) j = true → bt dm i = true := fun j hj => by
        have h1 := hsb1 j hj
        cases hdi : bt dm i with
        | true => rfl
        | false =>
          have := hcd (i - 1) (by omega) (by rw [show i - 1 + 1 = i from by omega]; exact hdi)
          rw [x11, this, U_I (by omega)] at h1
          exact (bt0f h1).elim
      -- the class's
      have hsame : (v = 1 ∧ ∀ j, 1 ≤ j → j ≤ n → bt (U (g1 29 (i - 1))) j = true → fitP s1 g1 γ t (i - 1) j) ↔ okP s1 g1 γ n t dm (i - 1) := by
        unfold okP
        rw [hv2, show i - 1 + 1 = i from by omega]
        constructor
        · rintro ⟨⟨a1, a2, a3⟩, a4⟩
          refine ⟨a1, a2, fun j b1 b2 b3 => ?_⟩
          rw [← a3] at b3
          exact ⟨b3, a4 j b1 b2 b3⟩
        · rintro ⟨a1, a2, a3⟩
          refine ⟨⟨a1, a2, bits_eq h29n q3 (fun j b1 b2 => ?_)⟩, fun j b1 b2 b3 => (a3 j b1 b2 (hsb1 j b3)).2⟩
          cases e1 : bt (U (s1 11 (i - 1) 0)) j with
          | true => exact (a3 j b1 b2 e1).1
          | false =>
            cases e2 : bt (U (g1 29 (i - 1))) j with
            | true => have := hsb1 j e2; rw [e1] at this; cases this
            | false => rfl
      have run : ∀ s2 : jU, FrC [24] s1 s2 → ∀ qm', qm' < 128 → s2 24 0 0 = I qm' → (∀ i, bt qm' (i + 1) = true → bt dm (i + 1) = true) → (∀ v', (v' = 1 ∨ v' = 0) → (v' = 1 ↔ okP s1 g1 γ n t dm (i - 1)) → I qm ||| I (if v' = 1 then 2 ^ (i - 1) else 0) = I qm') → (L_Room_judgeAll_2 (a + 1) (I i) s1 = Option.bind (f_Room_takeAnswers (I i) s2) fun s24 => L_Room_judgeAll_2 a (I (i + 1)) s24) → ∃ s' g', (1 ≤ i + 1 ∧ FrC [5, 6, 24] s s' ∧ FrM [25, 30, 31] g g' ∧ rNu s' g' 5 30 γ n dm ∧ rNu s' g' 6 31 γ n dm ∧ ∃ qm, qm < 128 ∧ s' 24 0 0 = I qm ∧ g' 25 0 = I qm ∧ (∀ i, bt qm (i + 1) = true → bt dm (i + 1) = true)) ∧ L_Room_judgeAll_2 (a + 1) (I i) s1 = L_Room_judgeAll_2 a (I (i + 1)) s' ∧ L_Mod_judge_2 (m + 1) (I i) g1 = L_Mod_judge_2 m (I (i + 1)) g' := fun s2 f2 qm' hq1 hq2 hq3 hq4 hcl => by
        have hC2 : Cx s2 g1 γ n t := hC1.fr f2 (FrM.rf (l := [])) (by decide) (by decide)
        have hA2 : rAn s2 g1 γ := by
          unfold rAn at *
          rw [f2 7 (by decide), f2 8 (by decide)]; exact hA1
        have hD2' : rDe s2 g1 γ n t dm := by
          unfold rDe rEl rNu at *
          rw [f2 3 (by decide), f2 12 (by decide), f2 5 (by decide), f2 6 (by decide)]; exact hD1'
        obtain ⟨s3, g3, v', r1, ⟨y, r2⟩, r3, r4, r5, r6, r7, r8⟩ := take_one (i := i) (v := v) hC2 ⟨d0, by omega⟩ hD2' hA2 hv1 (fun e => (hv2.mp e).1) had
        have r4' : v' = 1 ↔ okP s1 g1 γ n t dm (i - 1) := by
          rw [r4, ← hsame]
          unfold fitP
          rw [f2 7 (by decide), f2 8 (by decide)]
        refine ⟨s3, va_up g3 25 (fun _ => I qm'), ⟨by omega, ?_, ?_, ?_, ?_, qm', hq1, ?_, rfl, hq3⟩, ?_, ?_⟩
        · exact (d1.tr f2 (fun _ h => h) (by decide)).tr r5 (fun _ h => h) (by decide)
        · exact (d2.tr r6 (fun _ h => h) (by decide)).tr (FrM.up (l := [25]) (by simp)) (fun _ h => h) (by decide)
        · exact r7
        · exact r8
        · rw [r5 24 (by decide)]; exact hq2
        · rw [hcl, r1]; rfl
        · have := congrArg (fun o => Option.bind o fun x14 => Option.bind (L_Mod_judge_66 (I i) jF x14 1 g1) fun r => Option.bind (if r.1 = 0 then some (0 : Int32) else some ((1 : Int32) <<< ((I i - 1) &&& 31))) fun x65 => L_Mod_judge_2 m (I (i + 1)) (va_up r.2.2 25 (fun _ => r.2.2 25 0 ||| x65))) hv3
          rw [L_Mod_judge_2, h11, if_neg hlt, show I i + 1 = I (i + 1) from I_add i 1]
          rw [Option.bind_assoc] at this
          refine Eq.trans this ?_
          simp only [Option.bind_some]
          rw [r2]
          simp only [Option.bind_some]
          rw [B_bit d0 (by omega), show g3 25 0 = I qm from by rw [r6 25 (by decide)]; exact d7]
          have hh4 := hq4 v' r3 r4'
          rcases r3 with rfl | rfl
          · rw [if_neg (show ¬ I 1 = 0 by decide)]
            rw [if_pos rfl] at hh4
            simp only [Option.bind_some]; rw [hh4]
          · rw [if_pos (show I 0 = 0 from rfl)]
            rw [if_neg (by omega)] at hh4
            simp only [Option.bind_some]; rw [show I qm ||| 0 = _ from hh4]
      rcases out_spec hC1 ⟨d0, show i ≤ n by omega⟩ hD1' hcb1 hA1 with ⟨o1, o2⟩ | ⟨o1, o2⟩
      · refine run (ups s1 24 0 (fun _ => I (qm ||| 2 ^ (i - 1)))) (FrC.up (by simp)) (qm ||| 2 ^ (i - 1)) (or_lt d5 (by omega)) rfl ?_ ?_ ?_
        · intro x hx
          by_cases e : x + 1 = i
          · rw [e]; have := o1.1; rwa [show i - 1 + 1 = i from by omega] at this
          · rw [bt_oth d0 (by omega) e] at hx; exact d8 x hx
        · intro v' h1 h2
          rw [if_pos (h2.mpr o1), B_or qm d5 _ (p2_lt (by omega))]
        · rw [L_Room_judgeAll_2, h20, if_neg hlt, o2, Option.bind_some, if_neg (show ¬ ¬ I 0 = 0 from fun e => e rfl)]
          unfold f_SR_bit
          simp only [jlet, B_bit d0 (show i < 8 by omega), Option.bind_some, d6, B_or qm d5 _ (p2_lt (show i < 8 by omega))]
          rw [I1, I_add]
      · refine run s1 FrC.rf qm d5 d6 d8 ?_ ?_
        · intro v' h1 h2
          rw [if_neg (fun e => o1 (h2.mp e)), B_or qm d5 0 (by omega), Nat.or_zero]
        · rw [L_Room_judgeAll_2, h20, if_neg hlt, o2, Option.bind_some, if_pos (show ¬ I 1 = 0 by decide)]
          simp only [jlet, Option.bind_some]
          rw [I1, I_add])
    (fun a m s1 g1 hP => by
      obtain ⟨d0, d1, d2, -⟩ := hP
      obtain ⟨-, ⟨h20, h11, -⟩, -⟩ := hC.fr d1 d2 (by decide) (by decide)
      have hlt : I n < I (n + 1) := by rw [I_lt (by omega) (by omega)]; omega
      rw [L_Room_judgeAll_2, L_Mod_judge_2, h20, h11, if_pos hlt, if_pos hlt]
      exact ⟨rfl, rfl⟩) n 1 jF jF s g (by omega) (by unfold jF; omega) (by unfold jF; omega) ⟨by omega, FrC.rf, FrM.rf, hD5, hD6, 0, by omega, h24, h25, fun i h => (bt0f h).elim⟩
  exact ⟨s', g', qm, e1, e2, c1, c2, c3, c4, c5, c6, c7, c8⟩

theorem round4 {s : jU} {g : jS} {γ n t dm : Nat} (hC : Cx s g γ n t) (hD : rDe s g γ n t dm) (hcb : rCb s g n) (hcd : ∀ i < 7, bt dm (i + 1) = false → s 11 i 0 = I 0) (hA : rAn s g γ) (hsb : rSb s g) (h24 : s 24 0 0 = I 0) (h25 : g 25 0 = I 0) : ∃ s' g' qm, f_Room_judgeAll s = some s' ∧ f_Mod_judge g = some g' ∧ FrC [5, 6, 9, 22, 24] s s' ∧ FrM [17, 25, 30, 31, 36, 37] g g' ∧ rNu s' g' 5 30 γ n dm ∧ rNu s' g' 6 31 γ n dm ∧ qm < 128 ∧ s' 24 0 0 = I qm ∧ g' 25 0 = I qm ∧ (∀ i, bt qm (i + 1) = true → bt dm (i + 1) = true) ∧ ((s' 22 0 0 = I 3 ∧ g' 17 0 = I 1 ∧ s' 9 = s 9) ∨ (s' 22 = s 22 ∧ g' 17 0 = I 0 ∧ ∀ i < n, (g' 36 i = s' 9 i 0 ∧ OK (qg γ) (s' 9 i 0)) ∧ (g' 37 i = s' 9 i 1 ∧ OK (qg γ) (s' 9 i 1)))) := by
  obtain ⟨⟨-, -, -, -, hγ⟩, ⟨-, -, -, -, ht1, htn, hn7⟩, -⟩ := id hC
  have hq := qg_b γ
  obtain ⟨s1, g1, qm, e1, e2, c1, c2, c3, c4, c5, c6, c7, c8⟩ := round4a hC hD hcb hcd hA hsb h24 h25
  have hC1 := hC.fr c1 c2 (by decide) (by decide)
  obtain ⟨⟨h50, h53, h9, h10, -⟩, ⟨h20, h11, h21, h12, -⟩, hT, hCo, hFa, hCr⟩ := id hC1
  have hnum : ∀ i < n, bt qm (i + 1) = true → ∀ p, 1 ≤ p → p ≤ n → (g1 30 (7 * i + (p - 1)) = s1 5 (p - 1) (i + 1) ∧ OK (qg γ) (s1 5 (p - 1) (i + 1))) ∧ (g1 31 (7 * i + (p - 1)) = s1 6 (p - 1) (i + 1) ∧ OK (qg γ) (s1 6 (p - 1) (i + 1))) := fun i hi hb p hp1 hp2 =>
    ⟨(c3 i (by omega) (p - 1) (by omega)).1 (c8 i hb) (by omega), (c4 i (by omega) (p - 1) (by omega)).1 (c8 i hb) (by omega)⟩
  -- the reference's sums
  obtain ⟨g2, e3, -, f1, f2⟩ := loopU L_Mod_judge_213 (n + 1) (fun p gg => 1 ≤ p ∧ FrM [36, 37] g1 gg ∧ ∀ j, j + 1 < p → gg 36 j = I (qs qm (fun x => U (s1 5 j (x + 1))) n % qg γ) ∧ gg 37 j = I (qs qm (fun x => U (s1 6 j (x + 1))) n % qg γ))
    (fun k p gg hp hP => by
      obtain ⟨d0, d1, d2⟩ := hP
      have hp7 : jin (I p - 1) 7 := by rw [I1, I_sub d0, I_jin (by omega)]; omega
      have hpcl : (I p - 1).toNatClampNeg = p - 1 := by rw [I1, I_sub d0, I_cl (by omega)]
      obtain ⟨g3, r1, r2, r3, r4⟩ := msum_loop (g := gg) (s := s1) (γ := γ) (n := n) (m := qm) (p := p) (by rw [d1 10 (by decide)]; exact h10) (by rw [d1 11 (by decide)]; exact h11) hn7 c5 (by rw [d1 25 (by decide)]; exact c7) ⟨d0, by omega⟩ (fun i hi hb => by
        rw [d1 30 (by decide), d1 31 (by decide)]; exact hnum i hi hb p d0 (by omega))
      refine ⟨g3, ⟨by omega, d1.tr r2 (fun _ h => h) (fun _ h => h), fun j hj => ?_⟩, ?_⟩
      · rw [r3, r4]
        by_cases ej : j = p - 1
        · subst ej; rw [upd_eq, upd_eq]; exact ⟨rfl, rfl⟩
        · rw [upd_ne ej, upd_ne ej]; exact d2 j (by omega)
      · rw [L_Mod_judge_213, d1 11 (by decide), h11, if_neg (show ¬ I n < I p by rw [I_lt (by omega) (by omega)]; omega), if_pos hp7, hpcl]
        simp only [jlet]
        rw [if_pos hp7, vu_ne (show 37 ≠ 36 by decide), r1, I1, I_add]; rfl)
    (fun k gg hP => by
      obtain ⟨d0, d1, -⟩ := hP
      rw [L_Mod_judge_213, d1 11 (by decide), h11, if_pos (show I n < I (n + 1) by rw [I_lt (by omega) (by omega)]; omega)]) n 1 jF g1 (by omega) (by unfold jF; omega) ⟨by omega, FrM.rf, fun j hj => by omega⟩
  -- the verdict
  have h25' : g2 25 0 = I qm := by rw [f1 25 (by decide)]; exact c7
  have em : f_Mod_judge g = some (va_up g2 17 (fun _ => if qm = 0 then I 1 else I 0)) := by
    unfold f_Mod_judge
    rw [show L_Mod_judge_2 jF 1 g = _ from e2, Option.bind_some]
    simp only
    rw [show L_Mod_judge_213 jF 1 g1 = _ from e3, Option.bind_some]
    by_cases hz : qm = 0
    · subst hz
      rw [if_neg (show ¬ ¬ g2 25 0 = 0 from fun e => e h25'), if_pos rfl, Option.bind_some, if_pos (show jbo 1 from Or.inr rfl)]; rfl
    · rw [if_pos (show ¬ g2 25 0 = 0 by rw [h25', I0, I_eq (by omega) (by omega)]; exact hz), if_neg hz, Option.bind_some, if_pos (show jbo 0 from Or.inl rfl)]; rfl
  have FM : FrM [17, 25, 30, 31, 36, 37] g (va_up g2 17 (fun _ => if qm = 0 then I 1 else I 0)) := (c2.tr f1 (by decide) (by decide) (l := [17, 25, 30, 31, 36, 37])).tr (FrM.up (l := [17]) (by simp)) (fun _ h => h) (by decide)
  by_cases hz : qm = 0
  · subst hz
    refine ⟨ups s1 22 0 (fun _ => 3), va_up g2 17 (fun _ => I 1), 0, ?_, ?_, ?_, FM, ?_, ?_, c5, c6, h25', c8, Or.inl ⟨rfl, rfl, c1 9 (by decide)⟩⟩
    · unfold f_Room_judgeAll
      rw [show L_Room_judgeAll_2 jF 1 s = _ from e1, Option.bind_some]
      simp only
      rw [c6, if_neg (show ¬ ¬ I 0 = 0 from fun e => e rfl)]; rfl
    · rw [em, if_pos rfl]
    · exact (c1.tr (FrC.up (l := [22]) (by simp)) (by decide) (by decide))
    · unfold rNu at *
      rw [vu_ne (show 30 ≠ 17 by decide), f1 30 (by decide), ups_nK (show 5 ≠ 22 by decide)]; exact c3
    · unfold rNu at *
      rw [vu_ne (show 31 ≠ 17 by decide), f1 31 (by decide), ups_nK (show 6 ≠ 22 by decide)]; exact c4
  · rw [if_neg hz] at em FM
    obtain ⟨s2, e4, -, k1, k2⟩ := loopU L_Room_judgeAll_57 (n + 1) (fun p ss => 1 ≤ p ∧ FrC [9] s1 ss ∧ ∀ j, j + 1 < p → ss 9 j 0 = I (qs qm (fun x => U (s1 5 j (x + 1))) n % qg γ) ∧ ss 9 j 1 = I (qs qm (fun x => U (s1 6 j (x + 1))) n % qg γ))
      (fun k p ss hp hP => by
        obtain ⟨d0, d1, d2⟩ := hP
        have a1 := csum_spec (s := ss) (γ := γ) (n := n) (m := qm) (p := p) (w := 0) hγ (by rw [d1 53 (by decide)]; exact h53) (by rw [d1 20 (by decide)]; exact h20) hn7 c5 (by rw [d1 24 (by decide)]; exact c6) ⟨d0, by omega⟩ (by omega) (fun i hi hb => by
          rw [d1 (5 + 0) (by decide)]; exact (hnum i hi hb p d0 (by omega)).1.2)
        have a2 : FrC [9] ss (ups ss 9 (p - 1) (upd (ss 9 (p - 1)) 0 (I (qs qm (fun x => U (ss (5 + 0) (p - 1) (x + 1))) n % qg γ)))) := FrC.up (by simp)
        have d1' := d1.tr a2 (fun _ h => h) (fun _ h => h) (l := [9])
        have a3 := csum_spec (s := ups ss 9 (p - 1) (upd (ss 9 (p - 1)) 0 (I (qs qm (fun x => U (ss (5 + 0) (p - 1) (x + 1))) n % qg γ)))) (γ := γ) (n := n) (m := qm) (p := p) (w := 1) hγ (by rw [d1' 53 (by decide)]; exact h53) (by rw [d1' 20 (by decide)]; exact h20) hn7 c5 (by rw [d1' 24 (by decide)]; exact c6) ⟨d0, by omega⟩ (by omega) (fun i hi hb => by
          rw [d1' (5 + 1) (by decide)]; exact (hnum i hi hb p d0 (by omega)).2.2)
        generalize hSA : ups ss 9 (p - 1) (upd (ss 9 (p - 1)) 0 (I (qs qm (fun x => U (ss (5 + 0) (p - 1) (x + 1))) n % qg γ))) = sA at a1 a2 d1' a3
        refine ⟨ups sA 9 (p - 1) (upd (sA 9 (p - 1)) 1 (I (qs qm (fun x => U (sA (5 + 1) (p - 1) (x + 1))) n % qg γ))), ⟨by omega, d1'.tr (FrC.up (l := [9]) (by simp)) (fun _ h => h) (fun _ h => h), ?_⟩, ?_⟩
        rotate_left
        · rw [L_Room_judgeAll_57, d1 20 (by decide), h20, if_neg (show ¬ I n < I p by rw [I_lt (by omega) (by omega)]; omega), show f_Room_sumUp (I p) 0 ss = _ from a1, Option.bind_some, show f_Room_sumUp (I p) 1 _ = _ from a3, Option.bind_some]
          simp only [jlet]
          rw [I1, I_add]
        · intro j hj
          by_cases ej : j = p - 1
          · subst ej
            rw [ups_eq, upd_eq, upd_ne (show 0 ≠ 1 by decide), d1' (5 + 1) (by decide), ← hSA, ups_eq, upd_eq, d1 (5 + 0) (by decide)]
            exact ⟨rfl, rfl⟩
          · rw [ups_ni ej, ← hSA, ups_ni ej]; exact d2 j (by omega))
      (fun k ss hP => by
        obtain ⟨d0, d1, -⟩ := hP
        rw [L_Room_judgeAll_57, d1 20 (by decide), h20, if_pos (show I n < I (n + 1) by rw [I_lt (by omega) (by omega)]; omega)]) n 1 jF s1 (by omega) (by unfold jF; omega) ⟨by omega, FrC.rf, fun j hj => by omega⟩
    refine ⟨s2, va_up g2 17 (fun _ => I 0), qm, ?_, em, ?_, FM, ?_, ?_, c5, ?_, h25', c8, Or.inr ⟨?_, rfl, ?_⟩⟩
    · unfold f_Room_judgeAll
      rw [show L_Room_judgeAll_2 jF 1 s = _ from e1, Option.bind_some]
      simp only
      rw [c6, if_pos (show ¬ I qm = 0 by rw [I0, I_eq (by omega) (by omega)]; exact hz), show L_Room_judgeAll_57 jF 1 s1 = _ from e4]; rfl
    · exact c1.tr k1 (by decide) (by decide)
    · unfold rNu at *
      rw [vu_ne (show 30 ≠ 17 by decide), f1 30 (by decide), k1 5 (by decide)]; exact c3
    · unfold rNu at *
      rw [vu_ne (show 31 ≠ 17 by decide), f1 31 (by decide), k1 6 (by decide)]; exact c4
    · rw [k1 24 (by decide)]; exact c6
    · rw [k1 22 (by decide), c1 22 (by decide)]
    · intro i hi
      obtain ⟨u1, u2⟩ := k2 i (by omega)
      obtain ⟨w1, w2⟩ := f2 i (by omega)
      rw [vu_ne (show 36 ≠ 17 by decide), vu_ne (show 37 ≠ 17 by decide), u1, u2, w1, w2]
      exact ⟨⟨rfl, OK_I (Nat.mod_lt _ (by omega)) (by omega)⟩, rfl, OK_I (Nat.mod_lt _ (by omega)) (by omega)⟩
/-! ===== round 5 ===== -/
def rEx (s : jU) (g : jS) (γ t em : Nat) : Prop := g 24 0 = I em ∧ rEl s g 4 35 13 γ t em
theorem ext_a {s : jU} {g : jS} {γ n t p b : Nat} (hC : Cx s g γ n t) (hp : 1 ≤ p ∧ p ≤ 7) (hB : rBo s g b) (hb : b + 2 * t ≤ 1050) : ∃ s' g', L_Room_extract_22 (p - 1) jF 0 s = some (I t, s') ∧ L_Mod_extract_59 (I p) jF 0 g = some (I t, g') ∧ rBo s' g' (b + 2 * t) ∧ FrC [4, 40, 41] s s' ∧ FrM [35, 40, 41] g g' ∧ (∀ i, i ≠ p - 1 → s' 4 i = s 4 i) ∧ (∀ k < t, s' 4 (p - 1) k = el γ (U (g' 35 (7 * (p - 1) + k))) ∧ OK (qg γ) (g' 35 (7 * (p - 1) + k))) ∧ (∀ k, t ≤ k → s' 4 (p - 1) k = s 4 (p - 1) k) ∧ (∀ j, (j < 7 * (p - 1) ∨ 7 * (p - 1) + 7 ≤ j) → g' 35 j = g 35 j) := by
  obtain ⟨⟨-, -, -, -, hγ⟩, ⟨-, -, -, -, ht1, htn, hn7⟩, -⟩ := id hC
  have hq := qg_b γ
  obtain ⟨s', g', e1, e2, c1, c2, c3, c4, c5, c6, c7⟩ := loop2 (L_Room_extract_22 (p - 1)) (L_Mod_extract_59 (I p)) t (fun k s1 g1 => rBo s1 g1 (b + 2 * k) ∧ FrC [4, 40, 41] s s1 ∧ FrM [35, 40, 41] g g1 ∧ (∀ i, i ≠ p - 1 → s1 4 i = s 4 i) ∧ (∀ k' < k, s1 4 (p - 1) k' = el γ (U (g1 35 (7 * (p - 1) + k'))) ∧ OK (qg γ) (g1 35 (7 * (p - 1) + k'))) ∧ (∀ k', k ≤ k' → s1 4 (p - 1) k' = s 4 (p - 1) k') ∧ (∀ j, (j < 7 * (p - 1) ∨ 7 * (p - 1) + 7 ≤ j) → g1 35 j = g 35 j))
    (fun a m k s1 g1 hk hP => by
      obtain ⟨d1, d2, d3, d4, d5, d6, d7⟩ := hP
      have hC1 := hC.fr d2 d3 (by decide) (by decide)
      obtain ⟨⟨h50, h53, h9, h10, -⟩, ⟨-, -, h21, h12, -⟩, hT, hCo, hFa, -⟩ := id hC1
      obtain ⟨⟨x1, x2⟩, -⟩ := hCo (p - 1) (by omega) k (by omega)
      have x3 := x2.2
      have hk7 : jin (I k) 7 := by rw [I_jin (by omega)]; omega
      have hk49 : jin (I (7 * (p - 1) + k)) 49 := by rw [I_jin (by omega)]; omega
      have hqn : ¬ I (qg γ) = 0 := by rw [I0, I_eq (by omega) (by omega)]; omega
      -- the forged one
      have hV : ∃ V, V < qg γ ∧ (if ¬ I k = 0 then some (s1 0 (p - 1) k) else Option.bind (f_Party_has (p - 1) 5 s1) fun x23 => if x23 = 0 then some (s1 0 (p - 1) k) else Option.bind (F_plus (fnum (s1 53 0 0)) (s1 0 (p - 1) k) 1) fun x26 => some x26) = some (I V) ∧ ∃ x25 : Int32, (if ¬ I k = 0 then some (0 : Int32) else Option.bind (f_Mod_is (I p) 5 g1) fun x22 => if x22 = 0 then some 0 else some 1) = some x25 ∧ jrem (g1 19 (7 * (p - 1) + k) + x25) (I (qg γ)) = I V := by
        rw [show f_Party_has (p - 1) 5 s1 = _ from chas_spec (k := 5) (by omega), show f_Mod_is (I p) 5 g1 = _ from mis_spec (k := 5) hFa hp (by omega) (by omega), Option.bind_some, Option.bind_some, x1, h53, fnum_q hγ]
        have hsame : jrem (s1 0 (p - 1) k + 0) (I (qg γ)) = I (U (s1 0 (p - 1) k)) := by
          have : s1 0 (p - 1) k + 0 = I (U (s1 0 (p - 1) k)) := by rw [Int32.add_zero]; exact x2.1
          rw [this, I_rem (by omega) (by omega), Nat.mod_eq_of_lt x3]
        by_cases hk0 : k = 0
        · subst hk0
          rw [if_neg (show ¬ ¬ I 0 = 0 from fun e => e rfl), if_neg (show ¬ ¬ I 0 = 0 from fun e => e rfl)]
          by_cases hf : s1 2 (p - 1) 5 = I 0
          · rw [if_pos hf, if_pos (show I 0 = 0 from rfl), if_pos (show I 0 = 0 from rfl)]
            exact ⟨U (s1 0 (p - 1) 0), x3, by rw [← x2.1], 0, rfl, hsame⟩
          · rw [if_neg hf, if_neg (show ¬ I 1 = 0 by decide), if_neg (show ¬ I 1 = 0 by decide)]
            have e1 : F_plus (1 + γ) (s1 0 (p - 1) 0) 1 = some (I ((U (s1 0 (p - 1) 0) + 1) % qg γ)) := by
              have := F_pl (a := U (s1 0 (p - 1) 0)) (b := 1) hγ (by omega) (by omega)
              rw [← x2.1] at this; exact this
            have e2 : jrem (s1 0 (p - 1) 0 + 1) (I (qg γ)) = I ((U (s1 0 (p - 1) 0) + 1) % qg γ) := by
              have : s1 0 (p - 1) 0 + 1 = I (U (s1 0 (p - 1) 0) + 1) := by rw [← I_add, ← x2.1]; rfl
              rw [this, I_rem (by omega) (by omega)]
            rw [e1]
            exact ⟨_, Nat.mod_lt _ (by omega), rfl, 1, rfl, e2⟩
        · have hn : ¬ I k = 0 := by rw [I0, I_eq (by omega) (by omega)]; exact hk0
          rw [if_pos hn, if_pos hn]
          exact ⟨U (s1 0 (p - 1) k), x3, by rw [← x2.1], 0, rfl, hsame⟩
      obtain ⟨V, hV1, hV2, x25, hV3, hV4⟩ := hV
      have hel := el_lt hγ hV1
      have hBo : rBo (ups s1 4 (p - 1) (upd (s1 4 (p - 1)) k (el γ V))) (va_up g1 35 (upd (g1 35) (7 * (p - 1) + k) (I V))) (b + 2 * k) := d1
      obtain ⟨s2, g2, f1, f2, f3, f4, f5⟩ := wpair hBo (by omega) hel.2
      rw [← hel.1] at f1 f2
      refine ⟨s2, g2, ⟨f3, ?_, ?_, ?_, ?_, ?_, ?_⟩, ?_, ?_⟩
      · exact (d2.tr (FrC.up (l := [4]) (by simp)) (fun _ h => h) (by decide)).tr f4 (fun _ h => h) (by decide)
      · exact (d3.tr (FrM.up (l := [35]) (by simp)) (fun _ h => h) (by decide)).tr f5 (fun _ h => h) (by decide)
      · intro i hi
        rw [f4 4 (by decide), ups_ni hi]; exact d4 i hi
      · intro k' hk'
        rw [f4 4 (by decide), f5 35 (by decide), ups_eq, vu_eq]
        by_cases e : k' = k
        · subst e; rw [upd_eq, upd_eq, U_I (by omega)]; exact ⟨rfl, OK_I hV1 (by omega)⟩
        · rw [upd_ne e, upd_ne (by omega)]; exact d5 k' (by omega)
      · intro k' hk'
        rw [f4 4 (by decide), ups_eq, upd_ne (by omega)]; exact d6 k' (by omega)
      · intro j hj
        rw [f5 35 (by decide), vu_eq, upd_ne (by omega)]; exact d7 j hj
      · show L_Room_extract_22 (p - 1) (a + 1) (I k) s1 = _
        rw [L_Room_extract_22, h21, if_neg (show ¬ I t ≤ I k by rw [I_le (by omega) (by omega)]; omega), if_pos hk7, I_cl (by omega)]
        simp only [jlet]
        rw [hV2, Option.bind_some, h50, gnum_q hγ, el_gpow hγ (by omega), Nat.mod_eq_of_lt hV1, Option.bind_some, if_pos hk7, if_pos hk7]
        rw [show (ups s1 4 (p - 1) (upd (s1 4 (p - 1)) k (el γ V))) 4 (p - 1) k = el γ V from by rw [ups_eq, upd_eq], f1, Option.bind_some, I1, I_add]
      · show L_Mod_extract_59 (I p) (m + 1) (I k) g1 = _
        rw [L_Mod_extract_59, h12, if_neg (show ¬ I t ≤ I k by rw [I_le (by omega) (by omega)]; omega)]
        simp only [jlet, ix7 hp.1]
        rw [if_pos hk49, hV3, Option.bind_some, h10, if_pos hqn, if_pos hk49, I_cl (show 7 * (p - 1) + k < 2147483648 by omega), hV4, if_pos hk49]
        rw [vu_eq, upd_eq, mel_spec (g := va_up g1 35 _) hT hγ h9 hV1, Option.bind_some, f2, Option.bind_some, I1, I_add])
    (fun a m s1 g1 hP => by
      obtain ⟨d1, d2, d3, d4, d5, d6, d7⟩ := hP
      obtain ⟨-, ⟨-, -, h21, h12, -⟩, -⟩ := hC.fr d2 d3 (by decide) (by decide)
      rw [L_Room_extract_22, L_Mod_extract_59, h21, h12, if_pos (Int32.le_refl _), if_pos (Int32.le_refl _)]
      exact ⟨rfl, rfl⟩) t 0 jF jF s g (by omega) (by unfold jF; omega) (by unfold jF; omega) ⟨hB, FrC.rf, FrM.rf, fun _ _ => rfl, fun k hk => by omega, fun _ _ => rfl, fun _ _ => rfl⟩
  exact ⟨s', g', e1, e2, c1, c2, c3, c4, c5, c6, c7⟩
theorem ext_one {s : jU} {g : jS} {γ n t p b em : Nat} (hC : Cx s g γ n t) (hp : 1 ≤ p ∧ p ≤ n) (hB : rBo s g b) (hb : b + 2 + 2 * t ≤ 1050) (hE : rEx s g γ t em) : ∃ s' g', f_Room_extract (I p) s = some s' ∧ (jlet (va_up g 24 (fun _ => (g 24 0) ||| (1 <<< ((I p - 1) &&& 31)))) fun s10 =>
            Option.bind (f_Mod_show 5 s10) fun s12 =>
            Option.bind (f_Mod_show (I p) s12) fun s14 =>
            Option.bind (L_Mod_extract_59 (I p) jF 0 s14) fun (x40, s41) =>
            some s41) = some g' ∧ rBo s' g' (b + 2 + 2 * t) ∧ rEx s' g' γ t (em ||| 2 ^ (p - 1)) ∧ FrC [4, 13, 40, 41] s s' ∧ FrM [24, 35, 40, 41] g g' := by
  obtain ⟨⟨h50, h53, h9, h10, hγ⟩, ⟨h20, h11, h21, h12, ht1, htn, hn7⟩, hT, hCo, -⟩ := id hC
  have hq := qg_b γ
  obtain ⟨hD1, hD2, hD3, hD4⟩ := id hE
  have hB1 : rBo (ups s 13 (p - 1) (fun _ => 1)) (va_up g 24 (fun _ => I (em ||| 2 ^ (p - 1)))) b := hB
  obtain ⟨s1, g1, a1, a2, a3, a4, a5⟩ := wtwo (v := 5) (w := p) hB1 (by omega) (by omega) (by omega)
  have fA : FrC [13, 40, 41] s s1 := (FrC.up (l := [13]) (by simp)).tr a4 (by decide) (by decide)
  have fB : FrM [24, 40, 41] g g1 := (FrM.up (l := [24]) (by simp)).tr a5 (by decide) (by decide)
  have hC1 := hC.fr fA fB (by decide) (by decide)
  obtain ⟨s2, g2, b1, b2, b3, b4, b5, b6, b7, b8, b9⟩ := ext_a (p := p) hC1 ⟨hp.1, by omega⟩ a3 (by omega)
  have S13 : ∀ i, s2 13 i 0 = ups s 13 (p - 1) (fun _ => 1) 13 i 0 := fun i => by
    rw [b4 13 (by decide), a4 13 (by decide)]
  refine ⟨s2, g2, ?_, ?_, b3, ⟨?_, or_lt hD2 (by omega), ?_, ?_⟩, ?_, ?_⟩
  · unfold f_Room_extract
    rw [jidx_P (by omega), Option.bind_some]
    simp only [jlet]
    rw [show f_Board_write 5 (I p) _ = _ from a1, Option.bind_some, b1]; rfl
  · simp only [jlet]
    rw [hD1, B_bit hp.1 (by omega), B_or em hD2 _ (p2_lt (by omega))]
    rw [← Option.bind_assoc, show ((f_Mod_show 5 (va_up g 24 fun x => I (em ||| 2 ^ (p - 1)))).bind fun x => f_Mod_show (I p) x) = _ from a2, Option.bind_some, b2]; rfl
  · rw [b5 24 (by decide), a5 24 (by decide)]; rfl
  · intro i hi
    rw [S13]
    by_cases e : i = p - 1
    · subst e
      rw [ups_eq, show p - 1 + 1 = p from by omega, bt_self]; rfl
    · rw [ups_ni e, hD3 i hi, bt_oth hp.1 (by omega) (by omega)]
  · intro i hi k hk
    by_cases e : i = p - 1
    · subst e
      rw [show p - 1 + 1 = p from by omega, bt_self]
      refine ⟨fun _ hkt => b7 k hkt, fun h => ?_⟩
      rw [b8 k (by simp at h; exact h), fA 4 (by decide)]
      exact (hD4 (p - 1) (by omega) k hk).2 (fun h' => h ⟨rfl, h'.2⟩)
    · rw [bt_oth hp.1 (by omega) (by omega), b6 i e, b9 _ (by omega), fA 4 (by decide), fB 35 (by decide)]
      exact hD4 i hi k hk
  · exact fA.tr b4 (by decide) (by decide)
  · exact fB.tr b5 (by decide) (by decide)
theorem round5 {s : jU} {g : jS} {γ n t b qm : Nat} (hC : Cx s g γ n t) (hB : rBo s g b) (hb : b ≤ 252) (hE : rEx s g γ t 0) (hqm : qm < 128) (h24 : s 24 0 0 = I qm) (h25 : g 25 0 = I qm) : ∃ s' g' em b, f_Room_extractAll s = some s' ∧ f_Mod_extract g = some g' ∧ rBo s' g' b ∧ b ≤ 364 ∧ rEx s' g' γ t em ∧ FrC [4, 13, 40, 41] s s' ∧ FrM [24, 35, 40, 41] g g' := by
  obtain ⟨⟨-, -, -, -, hγ⟩, ⟨-, -, -, -, ht1, htn, hn7⟩, -⟩ := id hC
  obtain ⟨s', g', e1, e2, -, c1, c2, dm, b', c3, c4, c5⟩ := loop2 L_Room_extractAll_2 L_Mod_extract_2 (n + 1) (fun k s1 g1 => 1 ≤ k ∧ FrC [4, 13, 40, 41] s s1 ∧ FrM [24, 35, 40, 41] g g1 ∧ ∃ em b', rBo s1 g1 b' ∧ b' ≤ b + 16 * (k - 1) ∧ rEx s1 g1 γ t em)
    (fun a m k s1 g1 hk hP => by
      obtain ⟨d0, d1, d2, em, b1, d3, d4, d5⟩ := hP
      have hC1 := hC.fr d1 d2 (by decide) (by decide)
      obtain ⟨-, ⟨h20, h11, -⟩, -, -, hFa, hCr⟩ := id hC1
      obtain ⟨w1, w2⟩ := cwork hCr (p := k) (r := 5) ⟨d0, by omega⟩ (by omega)
      have hlt : ¬ I n < I k := by rw [I_lt (by omega) (by omega)]; omega
      have k24 : s1 24 0 0 = I qm := by rw [d1 24 (by decide)]; exact h24
      have k25 : g1 25 0 = I qm := by rw [d2 25 (by decide)]; exact h25
      have ec : L_Room_extractAll_2 (a + 1) (I k) s1 = Option.bind (if I (if bt qm k then 1 else 0) = 0 then some s1 else if I (if 5 < U (s1 10 (k - 1) 0) then 1 else 0) = 0 then some s1 else Option.bind (f_Room_extract (I k) s1) fun s22 => some s22) fun s25 => L_Room_extractAll_2 a (I (k + 1)) s25 := by
        rw [L_Room_extractAll_2, h20, if_neg hlt, cqual_spec k24 hqm ⟨d0, by omega⟩, Option.bind_some, jidx_P ⟨d0, by omega⟩, Option.bind_some, show f_Party_worksIn (k - 1) 5 s1 = _ from w1, Option.bind_some]
        simp only [jlet, I1, I_add]
      have em' : L_Mod_extract_2 (m + 1) (I k) g1 = Option.bind (if I (if 5 < U (s1 10 (k - 1) 0) then 1 else 0) = 0 then some g1 else if ¬ I (if bt qm k then 1 else 0) = 0 then (jlet (va_up g1 24 (fun _ => (g1 24 0) ||| (1 <<< ((I k - 1) &&& 31)))) fun s10 =>
            Option.bind (f_Mod_show 5 s10) fun s12 =>
            Option.bind (f_Mod_show (I k) s12) fun s14 =>
            Option.bind (L_Mod_extract_59 (I k) jF 0 s14) fun (x40, s41) =>
            some s41) else some g1) fun s25 => L_Mod_extract_2 m (I (k + 1)) s25 := by
        rw [L_Mod_extract_2, h11, if_neg hlt, show f_Mod_works (I k) 5 g1 = _ from w2, Option.bind_some, k25, min_spec hqm d0 (by omega), Option.bind_some]
        rw [show I k + 1 = I (k + 1) from I_add k 1]
        rfl
      rw [ec, em']
      by_cases hw : 5 < U (s1 10 (k - 1) 0)
      · rw [if_pos hw, if_neg (show ¬ I 1 = 0 by decide), if_neg (show ¬ I 1 = 0 by decide)]
        by_cases hs0 : bt qm k = true
        · rw [if_pos hs0, if_neg (show ¬ I 1 = 0 by decide), if_pos (show ¬ I 1 = 0 by decide)]
          obtain ⟨s3, g3, x1, x2, x3, x4, x5, x6⟩ := ext_one (p := k) hC1 ⟨d0, by omega⟩ d3 (by omega) d5
          refine ⟨s3, g3, ⟨by omega, d1.tr x5 (fun _ h => h) (fun _ h => h), d2.tr x6 (fun _ h => h) (fun _ h => h), _, _, x3, by omega, x4⟩, ?_, ?_⟩
          · rw [x1]; rfl
          · rw [x2]; rfl
        · rw [if_neg hs0, if_pos (show I 0 = 0 from rfl), if_neg (show ¬ ¬ I 0 = 0 from fun e => e rfl)]
          exact ⟨s1, g1, ⟨by omega, d1, d2, em, b1, d3, by omega, d5⟩, rfl, rfl⟩
      · rw [if_neg hw, if_pos (show I 0 = 0 from rfl), if_pos (show I 0 = 0 from rfl)]
        refine ⟨s1, g1, ⟨by omega, d1, d2, em, b1, d3, by omega, d5⟩, ?_, rfl⟩
        split <;> rfl)
    (fun a m s1 g1 hP => by
      obtain ⟨d0, d1, d2, -⟩ := hP
      obtain ⟨-, ⟨h20, h11, -⟩, -⟩ := hC.fr d1 d2 (by decide) (by decide)
      have hlt : I n < I (n + 1) := by rw [I_lt (by omega) (by omega)]; omega
      rw [L_Room_extractAll_2, L_Mod_extract_2, h20, h11, if_pos hlt, if_pos hlt]
      exact ⟨rfl, rfl⟩) n 1 jF jF s g (by omega) (by unfold jF; omega) (by unfold jF; omega) ⟨by omega, FrC.rf, FrM.rf, 0, b, hB, by omega, hE⟩
  refine ⟨s', g', dm, b', ?_, ?_, c3, by omega, c5, c1, c2⟩
  · unfold f_Room_extractAll
    rw [show L_Room_extractAll_2 jF 1 s = _ from e1]; rfl
  · unfold f_Mod_extract
    rw [show L_Mod_extract_2 jF 1 g = _ from e2]; rfl

/-! ===== round 6 ===== -/
theorem bt_and (a b k : Nat) : bt (a &&& b) k = (bt a k && bt b k) := by unfold bt; exact Nat.testBit_and a b (k - 1)
def rAc (s : jU) (g : jS) : Prop := g 26 0 = s 25 0 0 ∧ OK 128 (s 25 0 0)
def accC (p0 x10 : Int32) (x22 x26 : Int32) (s11 : jU) : Option jU := Option.bind (f_SR_bit x10) fun x38 =>
                jlet (ups s11 25 0 (fun _ => (s11 25 0 0) ||| x38)) fun s39 =>
                Option.bind (f_Board_write 6 p0 s39) fun s42 =>
                Option.bind (f_Room_writeNumbers x10 x22 x26 s42) fun s44 =>
                some s44
def accM (x1 x4 : Int32) (x16 x20 : Int32) (s5 : jS) : Option jS := jlet (va_up s5 26 (fun _ => (s5 26 0) ||| (1 <<< ((x4 - 1) &&& 31)))) fun s39 =>
                Option.bind (f_Mod_showNumbers 6 x1 x4 x16 x20 s39) fun s41 =>
                some s41
theorem acc_spec {s : jU} {g : jS} {i j b : Nat} {u v : Int32} (hi : 1 ≤ i ∧ i ≤ 7) (hj : 1 ≤ j ∧ j ≤ 7) (hB : rBo s g b) (hb : b + 7 ≤ 1050) (h : rAc s g) (hu : OK 1024 u) (hv : OK 1024 v) : ∃ s' g', accC (I j) (I i) u v s = some s' ∧ accM (I j) (I i) u v g = some g' ∧ rBo s' g' (b + 7) ∧ rAc s' g' ∧ FrC [25, 40, 41] s s' ∧ FrM [26, 40, 41] g g' := by
  obtain ⟨h1, h2⟩ := h
  have hlt := or_lt (m := U (s 25 0 0)) (j := i) h2.2 (by omega)
  have hB1 : rBo (ups s 25 0 (fun _ => I (U (s 25 0 0) ||| 2 ^ (i - 1)))) (va_up g 26 (fun _ => I (U (s 25 0 0) ||| 2 ^ (i - 1)))) b := hB
  obtain ⟨s1, s2, g2, a1, a2, a3, a4, a5, a5', a6⟩ := wnums (c := 6) (p := j) (o := i) (u := U u) (v := U v) hB1 hb (by omega) (by omega) (by omega) (Nat.lt_of_lt_of_le hu.2 (by decide)) (Nat.lt_of_lt_of_le hv.2 (by decide))
  rw [← hu.1, ← hv.1] at a2 a3
  have eo : s 25 0 0 ||| I (2 ^ (i - 1)) = I (U (s 25 0 0) ||| 2 ^ (i - 1)) := by
    rw [← B_or _ h2.2 _ (p2_lt (by omega)), ← h2.1]
  refine ⟨s2, g2, ?_, ?_, a4, ⟨?_, ?_⟩, ?_, ?_⟩
  · unfold accC f_SR_bit
    rw [B_bit hi.1 (by omega), Option.bind_some, eo]
    simp only [jlet]
    rw [show f_Board_write 6 (I j) _ = _ from a1, Option.bind_some, a2]; rfl
  · unfold accM
    rw [B_bit hi.1 (by omega), h1, eo]
    simp only [jlet]
    rw [show f_Mod_showNumbers 6 (I j) (I i) u v _ = _ from a3]; rfl
  · rw [a5 25 (by decide), a6 26 (by decide)]; rfl
  · rw [a5 25 (by decide)]; exact OK_I hlt (by omega)
  · exact (FrC.up (l := [25]) (by simp)).tr a5 (by decide) (by decide)
  · exact (FrM.up (l := [26]) (by simp)).tr a6 (by decide) (by decide)
theorem acc_one {s : jU} {g : jS} {γ n t j b dm em qm : Nat} (hC : Cx s g γ n t) (hj : 1 ≤ j ∧ j ≤ n) (hw : 6 < U (s 10 (j - 1) 0)) (hB : rBo s g b) (hb : b + 49 ≤ 1050) (hD : rDe s g γ n t dm) (hE : rEx s g γ t em) (hqm : qm < 128) (h24 : s 24 0 0 = I qm) (h25 : g 25 0 = I qm) (hqd : ∀ i, bt qm (i + 1) = true → bt dm (i + 1) = true) (h : rAc s g) : ∃ s' g' b', f_Room_accuse (I j) s = some s' ∧ (∃ y, L_Mod_accuse_12 (I j) jF 1 g = some (y, g')) ∧ rBo s' g' b' ∧ b' ≤ b + 49 ∧ rAc s' g' ∧ FrC [25, 40, 41] s s' ∧ FrM [26, 40, 41] g g' := by
  obtain ⟨⟨-, -, -, -, hγ⟩, ⟨-, -, -, -, ht1, htn, hn7⟩, -⟩ := id hC
  obtain ⟨hD1, ⟨hD2, hD3, hD4⟩, hD5, hD6⟩ := id hD
  obtain ⟨hE1, hE2, hE3, hE4⟩ := id hE
  have hq := qg_b γ
  obtain ⟨s', g', e1, e2, -, c1, c2, b', c3, c4, c5⟩ := loop2 (L_Room_accuse_2 (I j)) (L_Mod_accuse_12 (I j)) (n + 1) (fun i s1 g1 => 1 ≤ i ∧ FrC [25, 40, 41] s s1 ∧ FrM [26, 40, 41] g g1 ∧ ∃ b', rBo s1 g1 b' ∧ b' ≤ b + 7 * (i - 1) ∧ rAc s1 g1)
    (fun a m i s1 g1 hi hP => by
      obtain ⟨d0, d1, d2, b1, d3, d4, d5⟩ := hP
      have hC1 := hC.fr d1 d2 (by decide) (by decide)
      obtain ⟨⟨h50, h53, h9, h10, -⟩, ⟨h20, h11, h21, h12, -⟩, hT, hCo, hFa, hCr⟩ := id hC1
      have hlt : ¬ I n < I i := by rw [I_lt (by omega) (by omega)]; omega
      obtain ⟨-, w2⟩ := cwork hCr (p := j) (r := 6) ⟨hj.1, by omega⟩ (by omega)
      rw [show s1 10 = s 10 from d1 10 (by decide), if_pos hw] at w2
      have k24 : s1 24 0 0 = I qm := by rw [d1 24 (by decide)]; exact h24
      have k25 : g1 25 0 = I qm := by rw [d2 25 (by decide)]; exact h25
      have x13 : s1 13 (i - 1) 0 = I (if bt em i then 1 else 0) := by
        rw [d1 13 (by decide), hE3 (i - 1) (by omega), show i - 1 + 1 = i from by omega]
      have y24 : g1 24 0 = I em := by rw [d2 24 (by decide)]; exact hE1
      have hi8 : jin (I i) 8 := by rw [I_jin (by omega)]; omega
      have hk49 : jin (I (7 * (i - 1) + (j - 1))) 49 := by rw [I_jin (by omega)]; omega
      have hin : f_Mod_in (g1 25 0 &&& g1 24 0) (I i) = some (I (if bt qm i = true ∧ bt em i = true then 1 else 0)) := by
        rw [k25, y24, B_and qm hqm em hE2, min_spec (and_lt hqm) d0 (by omega), bt_and]
        by_cases h1 : bt qm i = true <;> by_cases h2 : bt em i = true <;> simp [h1, h2]
      by_cases hqe : bt qm i = true ∧ bt em i = true
      · obtain ⟨hqi, hei⟩ := hqe
        have hdi : bt dm i = true := by
          have := hqd (i - 1) (by rw [show i - 1 + 1 = i from by omega]; exact hqi)
          rwa [show i - 1 + 1 = i from by omega] at this
        obtain ⟨n5a, n5b⟩ := (hD5 (i - 1) (by omega) (j - 1) (by omega)).1 (by rw [show i - 1 + 1 = i from by omega]; exact hdi) (by omega)
        obtain ⟨n6a, n6b⟩ := (hD6 (i - 1) (by omega) (j - 1) (by omega)).1 (by rw [show i - 1 + 1 = i from by omega]; exact hdi) (by omega)
        rw [show i - 1 + 1 = i from by omega] at n5a n5b n6a n6b
        have u5 := n5b.2
        have E3 : ∀ k < t, s 3 (i - 1) k = el γ (U (g 34 (7 * (i - 1) + k))) ∧ OK (qg γ) (g 34 (7 * (i - 1) + k)) := fun k hk => (hD4 (i - 1) (by omega) k (by omega)).1 (by rw [show i - 1 + 1 = i from by omega]; exact hdi) hk
        have E4 : ∀ k < t, s 4 (i - 1) k = el γ (U (g 35 (7 * (i - 1) + k))) ∧ OK (qg γ) (g 35 (7 * (i - 1) + k)) := fun k hk => (hE4 (i - 1) (by omega) k (by omega)).1 (by rw [show i - 1 + 1 = i from by omega]; exact hei) hk
        have x5 : s1 5 = s 5 := d1 5 (by decide)
        have x6 : s1 6 = s 6 := d1 6 (by decide)
        have y30 : g1 30 = g 30 := d2 30 (by decide)
        have y31 : g1 31 = g 31 := d2 31 (by decide)
        have hHl : hs (fun k => U (g 35 (7 * (i - 1) + k))) j t % qg γ < qg γ := Nat.mod_lt _ (by omega)
        have cf : f_Room_fits (I i) (I j) (s 5 (j - 1) i) (s 6 (j - 1) i) s1 = some (if (U (s 5 (j - 1) i) + hh γ * U (s 6 (j - 1) i)) % qg γ = hs (fun k => U (g 34 (7 * (i - 1) + k))) j t % qg γ then 1 else 0) := cfitsU (c := fun k => U (g 34 (7 * (i - 1) + k))) hγ h50 h21 (by omega) ⟨d0, by omega⟩ (by omega) (fun k hk => by rw [d1 3 (by decide)]; exact ⟨(E3 k hk).1, (E3 k hk).2.2⟩) (OK_mono n5b (by omega)) (OK_mono n6b (by omega))
        have mf : f_Mod_fits (I i) (I j) (s 5 (j - 1) i) (s 6 (j - 1) i) g1 = some (if (U (s 5 (j - 1) i) + hh γ * U (s 6 (j - 1) i)) % qg γ = hs (fun k => U (g 34 (7 * (i - 1) + k))) j t % qg γ then 1 else 0) := mfitsU (c := fun k => U (g 34 (7 * (i - 1) + k))) hγ h9 (hT.2.2.1 γ hγ) h10 h12 (by omega) ⟨d0, by omega⟩ (by omega) (fun k hk => by rw [d2 34 (by decide)]; exact ⟨(E3 k hk).2.1, (E3 k hk).2.2⟩) (OK_mono n5b (by omega)) (OK_mono n6b (by omega))
        have cg : f_Group_power γ (ggen γ) (s 5 (j - 1) i) = some (el γ (U (s 5 (j - 1) i))) := by
          have := el_gpow (γ := γ) (e := U (s 5 (j - 1) i)) hγ (by omega)
          rw [← n5b.1, Nat.mod_eq_of_lt u5] at this; exact this
        have cp : f_Group_polynomialInExponents γ 7 (s1 4 (i - 1)) (I t) (I j) = some (el γ (hs (fun k => U (g 35 (7 * (i - 1) + k))) j t % qg γ)) := el_pie hγ (by omega) (by omega) (by omega) (fun k hk => by rw [d1 4 (by decide)]; exact ⟨(E4 k hk).1, (E4 k hk).2.2⟩)
        obtain ⟨y80, ma⟩ := ma_loop (g := g1) (x := j) (p := i) (t := t) (c := fun k => U (g 35 (7 * (i - 1) + k))) h10 h12 hq (by omega) ⟨d0, by omega⟩ (by omega) (fun k hk => by rw [d2 35 (by decide)]; exact ⟨(E4 k hk).2.1, (E4 k hk).2.2⟩) t 0 jF 0 (by omega) (by unfold jF; omega) rfl (by omega)
        have ec : L_Room_accuse_2 (I j) (a + 1) (I i) s1 = Option.bind (if U (s 5 (j - 1) i) = hs (fun k => U (g 35 (7 * (i - 1) + k))) j t % qg γ then some s1 else if (U (s 5 (j - 1) i) + hh γ * U (s 6 (j - 1) i)) % qg γ = hs (fun k => U (g 34 (7 * (i - 1) + k))) j t % qg γ then accC (I j) (I i) (s 5 (j - 1) i) (s 6 (j - 1) i) s1 else some s1) fun s47 => L_Room_accuse_2 (I j) a (I (i + 1)) s47 := by
          rw [L_Room_accuse_2, h20, if_neg hlt, cqual_spec k24 hqm ⟨d0, by omega⟩, Option.bind_some, if_pos hqi, if_neg (show ¬ I 1 = 0 by decide), jidx_P ⟨d0, by omega⟩, Option.bind_some, x13, if_pos hei, if_pos (show ¬ I 1 = 0 by decide), jidx_P ⟨hj.1, by omega⟩, Option.bind_some, if_pos hi8, I_cl (show i < 2147483648 by omega)]
          simp only [jlet, Option.bind_some, I1, I_add]
          rw [if_pos hi8, x5, x6, h50, gnum_q hγ, h21, cp, Option.bind_some, cg, Option.bind_some, cf, Option.bind_some]
          by_cases h1 : U (s 5 (j - 1) i) = hs (fun k => U (g 35 (7 * (i - 1) + k))) j t % qg γ
          · rw [if_pos h1, if_pos (by rw [h1])]
          · rw [if_neg h1, if_neg (fun e => h1 (el_inj hγ u5 hHl e))]
            split
            · rw [if_neg (show ¬ (1 : Int32) = 0 by decide)]
              unfold accC; simp only [jlet]
            · rw [if_pos (show (0 : Int32) = 0 from rfl)]
        have em' : L_Mod_accuse_12 (I j) (m + 1) (I i) g1 = Option.bind (if U (s 5 (j - 1) i) = hs (fun k => U (g 35 (7 * (i - 1) + k))) j t % qg γ then some g1 else if (U (s 5 (j - 1) i) + hh γ * U (s 6 (j - 1) i)) % qg γ = hs (fun k => U (g 34 (7 * (i - 1) + k))) j t % qg γ then accM (I j) (I i) (s 5 (j - 1) i) (s 6 (j - 1) i) g1 else some g1) fun s47 => L_Mod_accuse_12 (I j) m (I (i + 1)) s47 := by
          rw [L_Mod_accuse_12, h11, if_neg hlt, show f_Mod_works (I j) 6 g1 = _ from w2, Option.bind_some, if_neg (show ¬ I 1 = 0 by decide), hin, Option.bind_some, if_pos (show bt qm i = true ∧ bt em i = true from ⟨hqi, hei⟩), if_pos (show ¬ I 1 = 0 by decide)]
          simp only [f_Mod_at, ix8 d0 hj.1, Option.bind_some, jlet]
          rw [if_pos hk49, if_pos hk49, I_cl (show 7 * (i - 1) + (j - 1) < 2147483648 by omega), show L_Mod_accuse_80 (I j) (I i) g1 jF 0 0 = _ from ma, y30, y31, n5a, n6a, Option.bind_some, show I i + 1 = I (i + 1) from I_add i 1]
          simp only
          rw [mf, Option.bind_some]
          by_cases h1 : U (s 5 (j - 1) i) = hs (fun k => U (g 35 (7 * (i - 1) + k))) j t % qg γ
          · rw [if_pos h1, if_pos (by rw [← h1]; exact n5b.1)]
          · rw [if_neg h1, if_neg (fun e => h1 (by rw [e, U_I (by omega)]))]
            split
            · rw [if_pos (show ¬ (1 : Int32) = 0 by decide)]; rfl
            · rw [if_neg (show ¬ ¬ (0 : Int32) = 0 from fun e => e rfl)]
        rw [ec, em']
        by_cases h1 : U (s 5 (j - 1) i) = hs (fun k => U (g 35 (7 * (i - 1) + k))) j t % qg γ
        · rw [if_pos h1, if_pos h1]
          exact ⟨s1, g1, ⟨by omega, d1, d2, b1, d3, by omega, d5⟩, rfl, rfl⟩
        · rw [if_neg h1, if_neg h1]
          by_cases h2 : (U (s 5 (j - 1) i) + hh γ * U (s 6 (j - 1) i)) % qg γ = hs (fun k => U (g 34 (7 * (i - 1) + k))) j t % qg γ
          · rw [if_pos h2, if_pos h2]
            obtain ⟨s2, g2, r1, r2, r3, r4, r5, r6⟩ := acc_spec (i := i) (j := j) ⟨d0, by omega⟩ ⟨hj.1, by omega⟩ d3 (by omega) d5 (OK_mono n5b (show qg γ ≤ 1024 by omega)) (OK_mono n6b (show qg γ ≤ 1024 by omega))
            exact ⟨s2, g2, ⟨by omega, d1.tr r5 (fun _ h => h) (fun _ h => h), d2.tr r6 (fun _ h => h) (fun _ h => h), _, r3, by omega, r4⟩, by rw [r1]; rfl, by rw [r2]; rfl⟩
          · rw [if_neg h2, if_neg h2]
            exact ⟨s1, g1, ⟨by omega, d1, d2, b1, d3, by omega, d5⟩, rfl, rfl⟩
      · refine ⟨s1, g1, ⟨by omega, d1, d2, b1, d3, by omega, d5⟩, ?_, ?_⟩
        · rw [L_Room_accuse_2, h20, if_neg hlt, cqual_spec k24 hqm ⟨d0, by omega⟩, Option.bind_some]
          by_cases h1 : bt qm i = true
          · have h2 : ¬ bt em i = true := fun e => hqe ⟨h1, e⟩
            rw [if_pos h1, if_neg (show ¬ I 1 = 0 by decide), jidx_P ⟨d0, by omega⟩, Option.bind_some, x13, if_neg h2, if_neg (show ¬ ¬ I 0 = 0 from fun e => e rfl), Option.bind_some]
            simp only [jlet, I1, I_add]
          · rw [if_neg h1, if_pos (show I 0 = 0 from rfl), Option.bind_some]
            simp only [jlet, I1, I_add]
        · rw [L_Mod_accuse_12, h11, if_neg hlt, show f_Mod_works (I j) 6 g1 = _ from w2, Option.bind_some, if_neg (show ¬ I 1 = 0 by decide), hin, Option.bind_some, if_neg hqe, if_neg (show ¬ ¬ I 0 = 0 from fun e => e rfl), Option.bind_some]
          simp only [jlet, I1, I_add])
    (fun a m s1 g1 hP => by
      obtain ⟨d0, d1, d2, -⟩ := hP
      obtain ⟨-, ⟨h20, h11, -⟩, -⟩ := hC.fr d1 d2 (by decide) (by decide)
      have hlt : I n < I (n + 1) := by rw [I_lt (by omega) (by omega)]; omega
      rw [L_Room_accuse_2, L_Mod_accuse_12, h20, h11, if_pos hlt, if_pos hlt]
      exact ⟨rfl, rfl⟩) n 1 jF jF s g (by omega) (by unfold jF; omega) (by unfold jF; omega) ⟨by omega, FrC.rf, FrM.rf, b, hB, by omega, h⟩
  refine ⟨s', g', b', ?_, ⟨_, e2⟩, c3, by omega, c5, c1, c2⟩
  unfold f_Room_accuse
  rw [show L_Room_accuse_2 (I j) jF 1 s = _ from e1]; rfl
theorem round6 {s : jU} {g : jS} {γ n t b dm em qm : Nat} (hC : Cx s g γ n t) (hB : rBo s g b) (hb : b ≤ 364) (hD : rDe s g γ n t dm) (hE : rEx s g γ t em) (hqm : qm < 128) (h24 : s 24 0 0 = I qm) (h25 : g 25 0 = I qm) (hqd : ∀ i, bt qm (i + 1) = true → bt dm (i + 1) = true) (h : rAc s g) : ∃ s' g' b', f_Room_accuseAll s = some s' ∧ f_Mod_accuse g = some g' ∧ rBo s' g' b' ∧ b' ≤ 707 ∧ rAc s' g' ∧ FrC [25, 40, 41] s s' ∧ FrM [26, 40, 41] g g' := by
  obtain ⟨⟨-, -, -, -, hγ⟩, ⟨-, -, -, -, ht1, htn, hn7⟩, -⟩ := id hC
  obtain ⟨s', g', e1, e2, -, c1, c2, b', c3, c4, c5⟩ := loop2 L_Room_accuseAll_2 L_Mod_accuse_2 (n + 1) (fun k s1 g1 => 1 ≤ k ∧ FrC [25, 40, 41] s s1 ∧ FrM [26, 40, 41] g g1 ∧ ∃ b', rBo s1 g1 b' ∧ b' ≤ b + 49 * (k - 1) ∧ rAc s1 g1)
    (fun a m k s1 g1 hk hP => by
      obtain ⟨d0, d1, d2, b1, d3, d4, d5⟩ := hP
      have hC1 := hC.fr d1 d2 (by decide) (by decide)
      obtain ⟨-, ⟨h20, h11, -⟩, -, -, hFa, hCr⟩ := id hC1
      obtain ⟨w1, w2⟩ := cwork hCr (p := k) (r := 6) ⟨d0, by omega⟩ (by omega)
      have hlt : ¬ I n < I k := by rw [I_lt (by omega) (by omega)]; omega
      have ec : L_Room_accuseAll_2 (a + 1) (I k) s1 = Option.bind (if I (if 6 < U (s1 10 (k - 1) 0) then 1 else 0) = 0 then some s1 else Option.bind (f_Room_accuse (I k) s1) fun s19 => some s19) fun s25 => L_Room_accuseAll_2 a (I (k + 1)) s25 := by
        rw [L_Room_accuseAll_2, h20, if_neg hlt, jidx_P ⟨d0, by omega⟩, Option.bind_some, show f_Party_worksIn (k - 1) 6 s1 = _ from w1, Option.bind_some]
        simp only [jlet, I1, I_add]
      have em' : L_Mod_accuse_2 (m + 1) (I k) g1 = Option.bind (L_Mod_accuse_12 (I k) jF 1 g1) fun z => L_Mod_accuse_2 m (I (k + 1)) z.2 := by
        rw [L_Mod_accuse_2, h11, if_neg hlt, show I k + 1 = I (k + 1) from I_add k 1]
        rfl
      rw [ec, em']
      by_cases hw : 6 < U (s1 10 (k - 1) 0)
      · rw [if_pos hw, if_neg (show ¬ I 1 = 0 by decide)]
        have hD1 : rDe s1 g1 γ n t dm := by
          unfold rDe rEl rNu at *
          rw [d1 12 (by decide), d1 3 (by decide), d1 5 (by decide), d1 6 (by decide), d2 23 (by decide), d2 34 (by decide), d2 30 (by decide), d2 31 (by decide)]
          exact hD
        have hE1 : rEx s1 g1 γ t em := by
          unfold rEx rEl at *
          rw [d1 13 (by decide), d1 4 (by decide), d2 24 (by decide), d2 35 (by decide)]
          exact hE
        obtain ⟨s2, g2, b2, x1, ⟨y, x2⟩, x3, x4, x5, x6, x7⟩ := acc_one (j := k) hC1 ⟨d0, by omega⟩ hw d3 (by omega) hD1 hE1 hqm (by rw [d1 24 (by decide)]; exact h24) (by rw [d2 25 (by decide)]; exact h25) hqd d5
        exact ⟨s2, g2, ⟨by omega, d1.tr x6 (fun _ h => h) (fun _ h => h), d2.tr x7 (fun _ h => h) (fun _ h => h), b2, x3, by omega, x5⟩, by rw [x1]; rfl, by rw [x2]; rfl⟩
      · rw [if_neg hw, if_pos (show I 0 = 0 from rfl)]
        rw [if_neg hw] at w2
        refine ⟨s1, g1, ⟨by omega, d1, d2, b1, d3, by omega, d5⟩, rfl, ?_⟩
        show Option.bind (L_Mod_accuse_12 (I k) (3999 + 1) 1 g1) _ = _
        rw [L_Mod_accuse_12, h11, if_neg (show ¬ I n < 1 by rw [I1, I_lt (by omega) (by omega)]; omega), show f_Mod_works (I k) 6 g1 = _ from w2]
        rfl)
    (fun a m s1 g1 hP => by
      obtain ⟨d0, d1, d2, -⟩ := hP
      obtain ⟨-, ⟨h20, h11, -⟩, -⟩ := hC.fr d1 d2 (by decide) (by decide)
      have hlt : I n < I (n + 1) := by rw [I_lt (by omega) (by omega)]; omega
      rw [L_Room_accuseAll_2, L_Mod_accuse_2, h20, h11, if_pos hlt, if_pos hlt]
      exact ⟨rfl, rfl⟩) n 1 jF jF s g (by omega) (by unfold jF; omega) (by unfold jF; omega) ⟨by omega, FrC.rf, FrM.rf, b, hB, by omega, h⟩
  refine ⟨s', g', b', ?_, ?_, c3, by omega, c5, c1, c2⟩
  · unfold f_Room_accuseAll
    rw [show L_Room_accuseAll_2 jF 1 s = _ from e1]; rfl
  · unfold f_Mod_accuse
    rw [show L_Mod_accuse_2 jF 1 g = _ from e2]; rfl

