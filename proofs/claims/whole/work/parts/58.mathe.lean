/-! ===== the value at 0: both ways ===== -/
theorem pcn_bit : ∀ m < 128, ∀ j < 8, 1 ≤ j → pcn m j = pcn m (j - 1) + (if bt m j then 1 else 0) := by decide +kernel
theorem pcn_ex : ∀ m < 128, ∀ i < 8, i < pcn m 7 → ∃ j, j < 8 ∧ 1 ≤ j ∧ bt m j = true ∧ pcn m (j - 1) = i := by decide +kernel
theorem pcn_inj0 : ∀ m < 128, ∀ i < 8, ∀ j < 8, (1 ≤ i ∧ 1 ≤ j ∧ bt m i = true ∧ bt m j = true ∧ pcn m (i - 1) = pcn m (j - 1)) → i = j := by decide +kernel
theorem pcn_inj (m : Nat) (hm : m < 128) (i : Nat) (hi : i < 8) (j : Nat) (hj : j < 8) (a : 1 ≤ i) (b : 1 ≤ j) (c : bt m i = true) (d : bt m j = true) (e : pcn m (i - 1) = pcn m (j - 1)) : i = j := pcn_inj0 m hm i hi j hj ⟨a, b, c, d, e⟩
theorem fmuq {γ : Nat} (hγ : γ < 2) (a b : Nat) : fmu (1 + γ) a b = a * b % qg γ := by
  unfold fmu; rw [if_neg (by omega), qf_qg hγ]
theorem fadq {γ : Nat} (hγ : γ < 2) (a b : Nat) : fad (1 + γ) a b = (a + b) % qg γ := by
  unfold fad; rw [if_neg (by omega), qf_qg hγ]
theorem pcn_7 : ∀ m < 128, pcn m 7 < 8 := by decide +kernel
theorem pcn_lt7 : ∀ m < 128, ∀ j < 8, 1 ≤ j → bt m j = true → pcn m (j - 1) < pcn m 7 := by decide +kernel
theorem pcn_pop : ∀ m < 128, pcn m 7 = popc m := by decide +kernel
def Ptm (s : jU) (g : jS) (γ m : Nat) : Prop := m < 128 ∧ s 52 0 0 = I (1 + γ) ∧ s 37 0 0 = I (pcn m 7) ∧ ∀ j, 1 ≤ j → j ≤ 7 → bt m j = true → s 34 0 (pcn m (j - 1)) = I j ∧ s 35 0 (pcn m (j - 1)) = g 38 (j - 1) ∧ OK (qg γ) (g 38 (j - 1))
theorem Ptm_pt {s : jU} {g : jS} {γ m : Nat} (hγ : γ < 2) (h : Ptm s g γ m) : Pt (1 + γ) (pcn m 7) (s 34 0) (s 35 0) := by
  obtain ⟨hm, h52, h37, hp⟩ := h
  have hq := qg_b γ
  have h7 := pcn_7 m hm
  refine ⟨by omega, by omega, fun i hi => ?_, fun i i' hii hi' => ?_⟩
  · obtain ⟨j, j1, j2, j3, j4⟩ := pcn_ex m hm i (by omega) hi
    obtain ⟨a, b, c⟩ := hp j j2 (by omega) j3
    rw [j4] at a b
    rw [a, b, qf_qg hγ]
    exact ⟨OK_I (by omega) (by omega), c⟩
  · obtain ⟨j, j1, j2, j3, j4⟩ := pcn_ex m hm i (by omega) (by omega)
    obtain ⟨k, k1, k2, k3, k4⟩ := pcn_ex m hm i' (by omega) hi'
    obtain ⟨a, -, -⟩ := hp j j2 (by omega) j3
    obtain ⟨b, -, -⟩ := hp k k2 (by omega) k3
    rw [j4] at a
    rw [k4] at b
    rw [a, b, Ne, I_eq (by omega) (by omega)]
    intro e; subst e; omega
theorem mw49 {g : jS} {γ j x9 : Nat} (hγ : γ < 2) (h10 : g 10 0 = I (qg γ)) (hj : j < qg γ) (hx : x9 < qg γ) (h0 : x9 ≠ 0) : ∀ (d i n : Nat), i + d = fmu (1 + γ) j (fiv (1 + γ) x9) → d < n → L_Mod_weight_49 g (I j) (I x9) n (I i) = some (I (fmu (1 + γ) j (fiv (1 + γ) x9))) := by
  have hq := qg_b γ
  have hf : 1 + γ < 3 := by omega
  have hqq := qf_qg hγ
  have hj' : j < qf (1 + γ) := by omega
  have hx' : x9 < qf (1 + γ) := by omega
  have hl : fmu (1 + γ) j (fiv (1 + γ) x9) < qf (1 + γ) := fmu_lt hj'
  have hqn : ¬ I (qg γ) = 0 := by rw [I0, I_eq (by omega) (by omega)]; omega
  have hmul : ∀ i, i < qg γ → jrem (I i * I x9) (I (qg γ)) = I (fmu (1 + γ) i x9) := fun i hi => by
    have : i * x9 < 1019 * 1019 := Nat.mul_lt_mul_of_lt_of_lt (by omega) (by omega)
    rw [I_mul, I_rem (by omega) (by omega)]
    unfold fmu
    rw [if_neg (by omega), hqq]
  have hjr : jrem (I j) (I (qg γ)) = I j := by rw [I_rem (by omega) (by omega), Nat.mod_eq_of_lt hj]
  intro d
  induction d with
  | zero =>
    intro i n hi hn
    match n, hn with
    | n + 1, _ =>
      have e : i = fmu (1 + γ) j (fiv (1 + γ) x9) := by omega
      rw [L_Mod_weight_49, h10, if_pos hqn, if_pos hqn, hmul i (by omega), hjr, e, fq_ok hf hj' hx' h0, if_pos rfl]
  | succ d ih =>
    intro i n hi hn
    match n, hn with
    | n + 1, hn =>
      have hil : i < qf (1 + γ) := by omega
      have hml : fmu (1 + γ) i x9 < qf (1 + γ) := fmu_lt hil
      rw [L_Mod_weight_49, h10, if_pos hqn, if_pos hqn, hmul i (by omega), hjr, if_neg (fun e => by
        have e2 : fmu (1 + γ) i x9 = j := (I_eq (by omega) (by omega)).mp e
        have := fq_un hf hj' hx' h0 hil e2
        omega)]
      simp only [jlet]
      rw [I1, I_add]
      exact ih (i + 1) n (by omega) (by omega)
theorem mw_loop {s : jU} {g0 g : jS} {γ m p : Nat} (hγ : γ < 2) (h : Ptm s g0 γ m) (h10 : g 10 0 = I (qg γ)) (hp : 1 ≤ p ∧ p ≤ 7) (hb : bt m p = true) : letI := Fd_cr (1 + γ); ∀ (d j n : Nat) (R : FdM (1 + γ)), j + d = 7 → d < n → R * pr (Xf (1 + γ) (s 34 0)) (pcn m (p - 1)) (Xf (1 + γ) (s 34 0) (pcn m (p - 1))) (pcn m j) = pr (Xf (1 + γ) (s 34 0)) (pcn m (p - 1)) 0 (pcn m j) → ∃ (z : Int32) (R' : FdM (1 + γ)), L_Mod_weight_5 (I m) (I p) g n (I R.1) (I (j + 1)) = some (I R'.1, z) ∧ R' * pr (Xf (1 + γ) (s 34 0)) (pcn m (p - 1)) (Xf (1 + γ) (s 34 0) (pcn m (p - 1))) (pcn m 7) = pr (Xf (1 + γ) (s 34 0)) (pcn m (p - 1)) 0 (pcn m 7) := by
  letI := Fd_cr (1 + γ)
  obtain ⟨hm, h52, h37, hpt⟩ := id h
  have hq := qg_b γ
  have hf : 1 + γ < 3 := by omega
  have hqq := qf_qg hγ
  have hqn : ¬ I (qg γ) = 0 := by rw [I0, I_eq (by omega) (by omega)]; omega
  have xp : (Xf (1 + γ) (s 34 0) (pcn m (p - 1))).1 = p := by
    have := (hpt p hp.1 hp.2 hb).1
    unfold Xf; rw [this, U_I (by omega)]; exact tF_1 (by omega)
  intro d
  induction d with
  | zero =>
    intro j n R hj hn hR
    match n, hn with
    | n + 1, _ =>
      rw [L_Mod_weight_5, if_pos (show 8 ≤ I (j + 1) by rw [I8, I_le (by omega) (by omega)]; omega)]
      rw [show j = 7 from by omega] at hR
      exact ⟨_, R, rfl, hR⟩
  | succ d ih =>
    intro j n R hj hn hR
    match n, hn with
    | n + 1, hn =>
      have hpb := pcn_bit m hm (j + 1) (by omega) (by omega)
      rw [show j + 1 - 1 = j from by omega] at hpb
      rw [L_Mod_weight_5, if_neg (show ¬ 8 ≤ I (j + 1) by rw [I8, I_le (by omega) (by omega)]; omega), min_spec hm (by omega) (by omega), Option.bind_some, show I (j + 1) + 1 = I (j + 1 + 1) from I_add (j + 1) 1]
      by_cases hbj : bt m (j + 1) = true
      · rw [if_pos hbj] at hpb
        rw [if_pos hbj, if_neg (show ¬ I 1 = 0 by decide)]
        have xj : (Xf (1 + γ) (s 34 0) (pcn m j)).1 = j + 1 := by
          have := (hpt (j + 1) (by omega) (by omega) hbj).1
          rw [show j + 1 - 1 = j from by omega] at this
          unfold Xf; rw [this, U_I (by omega)]; exact tF_1 (by omega)
        by_cases hjp : j + 1 = p
        · rw [if_neg (show ¬ ¬ I (j + 1) = I p from fun e => e (by rw [hjp])), Option.bind_some]
          simp only [jlet]
          refine ih (j + 1) n R (by omega) (by omega) ?_
          have e : pcn m j = pcn m (p - 1) := by rw [← hjp, show j + 1 - 1 = j from by omega]
          rw [hpb, pr, if_pos e, pr, if_pos e]; exact hR
        · rw [if_pos (show ¬ I (j + 1) = I p by rw [I_eq (by omega) (by omega)]; exact hjp), h10, if_pos hqn]
          have hxx : jrem (I (j + 1) - I p + I (qg γ)) (I (qg γ)) = I (fsu (1 + γ) (j + 1) p) := by
            rw [I_subA (by omega), I_rem (by omega) (by omega)]
            unfold fsu
            rw [if_neg (by omega), hqq]
          have hx0 : fsu (1 + γ) (j + 1) p ≠ 0 := by
            unfold fsu
            rw [if_neg (by omega), hqq]
            intro e
            rcases Nat.lt_or_ge (j + 1) p with h1 | h1
            · rw [Nat.mod_eq_of_lt (by omega)] at e; omega
            · rw [show j + 1 + qg γ - p = (j + 1 - p) + qg γ from by omega, Nat.add_mod_right, Nat.mod_eq_of_lt (by omega)] at e; omega
          have hxl : fsu (1 + γ) (j + 1) p < qf (1 + γ) := fsu_lt (by omega) (by omega)
          have hzl : fmu (1 + γ) (j + 1) (fiv (1 + γ) (fsu (1 + γ) (j + 1) p)) < qf (1 + γ) := fmu_lt (by omega)
          simp only [jlet]
          rw [hxx, show L_Mod_weight_49 g (I (j + 1)) (I (fsu (1 + γ) (j + 1) p)) jF 0 = _ from mw49 hγ h10 (by omega) (by omega) hx0 _ 0 jF (Nat.zero_add _) (by unfold jF; omega), Option.bind_some, if_pos hqn]
          have ⟨zz, hzz⟩ : ∃ zz : FdM (1 + γ), zz.1 = fmu (1 + γ) (j + 1) (fiv (1 + γ) (fsu (1 + γ) (j + 1) p)) := ⟨⟨_, hzl⟩, rfl⟩
          have hRz : jrem (I R.1 * I (fmu (1 + γ) (j + 1) (fiv (1 + γ) (fsu (1 + γ) (j + 1) p)))) (I (qg γ)) = I (R * zz : FdM (1 + γ)).1 := by
            have hR2 := R.2
            have : R.1 * zz.1 < 1019 * 1019 := Nat.mul_lt_mul_of_lt_of_lt (by omega) (by omega)
            rw [← hzz, I_mul, I_rem (by omega) (by omega)]
            exact congrArg I (fmuq hγ _ _).symm
          rw [hRz, Option.bind_some]
          refine ih (j + 1) n _ (by omega) (by omega) ?_
          have hne : ¬ pcn m j = pcn m (p - 1) := fun e => hjp (pcn_inj m hm (j + 1) (by omega) p (by omega) (by omega) hp.1 hbj hb (by rw [show j + 1 - 1 = j from by omega]; exact e))
          rw [hpb, pr, if_neg hne, pr, if_neg hne]
          have hz : zz * (Xf (1 + γ) (s 34 0) (pcn m j) - Xf (1 + γ) (s 34 0) (pcn m (p - 1))) = Xf (1 + γ) (s 34 0) (pcn m j) := by
            apply Subtype.ext
            show fmu (1 + γ) zz.1 (Xf (1 + γ) (s 34 0) (pcn m j) - Xf (1 + γ) (s 34 0) (pcn m (p - 1)) : FdM (1 + γ)).1 = _
            rw [Fd_sub, xj, xp, hzz]
            exact fq_ok hf (by omega) hxl hx0
          generalize Xf (1 + γ) (s 34 0) (pcn m j) = xjj at hz
          generalize Xf (1 + γ) (s 34 0) (pcn m (p - 1)) = xpp at hz hR
          grind
      · rw [if_neg hbj] at hpb
        rw [if_neg hbj, if_pos (show I 0 = 0 from rfl), Option.bind_some]
        simp only [jlet]
        refine ih (j + 1) n R (by omega) (by omega) ?_
        rw [hpb]; exact hR
theorem mw_spec {s : jU} {g0 g : jS} {γ m p : Nat} (hγ : γ < 2) (h : Ptm s g0 γ m) (h10 : g 10 0 = I (qg γ)) (hp : 1 ≤ p ∧ p ≤ 7) (hb : bt m p = true) : letI := Fd_cr (1 + γ); f_Mod_weight (I m) (I p) g = some (I (WN (1 + γ) (s 34 0) (pcn m 7) (pcn m (p - 1)) 0)) := by
  letI := Fd_cr (1 + γ)
  have hf : 1 + γ < 3 := by omega
  have hm := h.1
  have hP := Ptm_pt hγ h
  obtain ⟨z, R, e1, e2⟩ := mw_loop hγ h h10 hp hb 7 0 jF 1 (by omega) (by unfold jF; omega) (by
    show (1 : FdM (1 + γ)) * 1 = 1
    grind)
  rw [Fd_one] at e1
  have hne := pr_ne (Fd_hz hf) (Fd_h1 (1 + γ)) (fun i j a b => (Pt_ne hP (show i < pcn m 7 by omega) b (by omega)).2) (pcn_lt7 m hm p (by omega) hp.1 hb) (pcn m 7) (Nat.le_refl _)
  have hw : R = pr (Xf (1 + γ) (s 34 0)) (pcn m (p - 1)) 0 (pcn m 7) * Fd_iv (1 + γ) (pr (Xf (1 + γ) (s 34 0)) (pcn m (p - 1)) (Xf (1 + γ) (s 34 0) (pcn m (p - 1))) (pcn m 7)) := by
    have hi := Fd_hiv hf _ hne
    rw [← e2]
    generalize pr (Xf (1 + γ) (s 34 0)) (pcn m (p - 1)) (Xf (1 + γ) (s 34 0) (pcn m (p - 1))) (pcn m 7) = D at hi
    grind
  unfold f_Mod_weight
  rw [show L_Mod_weight_5 (I m) (I p) g jF 1 1 = _ from e1, Option.bind_some]
  simp only
  rw [hw]; rfl
theorem mz_loop {s : jU} {g : jS} {γ m : Nat} (hγ : γ < 2) (h : Ptm s g γ m) (h10 : g 10 0 = I (qg γ)) : letI := Fd_cr (1 + γ); ∀ (d j n : Nat), j + d = 7 → d < n → ∃ z, L_Mod_atZero_4 (I m) g n (I (VN (1 + γ) (s 34 0) (s 35 0) (pcn m 7) 0 (pcn m j))) (I (j + 1)) = some (I (VN (1 + γ) (s 34 0) (s 35 0) (pcn m 7) 0 (pcn m 7)), z) := by
  letI := Fd_cr (1 + γ)
  obtain ⟨hm, h52, h37, hpt⟩ := id h
  have hq := qg_b γ
  have hqq := qf_qg hγ
  have hqn : ¬ I (qg γ) = 0 := by rw [I0, I_eq (by omega) (by omega)]; omega
  intro d
  induction d with
  | zero =>
    intro j n hj hn
    match n, hn with
    | n + 1, _ =>
      rw [L_Mod_atZero_4, if_pos (show 8 ≤ I (j + 1) by rw [I8, I_le (by omega) (by omega)]; omega), show j = 7 from by omega]
      exact ⟨_, rfl⟩
  | succ d ih =>
    intro j n hj hn
    match n, hn with
    | n + 1, hn =>
      have hpb := pcn_bit m hm (j + 1) (by omega) (by omega)
      rw [show j + 1 - 1 = j from by omega] at hpb
      have ihj := ih (j + 1) n (by omega) (by omega)
      rw [L_Mod_atZero_4, if_neg (show ¬ 8 ≤ I (j + 1) by rw [I8, I_le (by omega) (by omega)]; omega), min_spec hm (by omega) (by omega), Option.bind_some, show I (j + 1) + 1 = I (j + 1 + 1) from I_add (j + 1) 1]
      by_cases hbj : bt m (j + 1) = true
      · rw [if_pos hbj] at hpb
        obtain ⟨a1, a2, a3⟩ := hpt (j + 1) (by omega) (by omega) hbj
        rw [show j + 1 - 1 = j from by omega] at a1 a2 a3
        have a4 := a3.2
        have hj7 : jin (I (j + 1) - 1) 7 := by rw [I_m2, I_jin (by omega)]; omega
        have hw := mw_spec hγ h h10 (p := j + 1) ⟨by omega, by omega⟩ hbj
        rw [show j + 1 - 1 = j from by omega] at hw
        have hwl := WN_lt (1 + γ) (s 34 0) (pcn m 7) (pcn m j) 0
        have hvl := VN_lt (1 + γ) (s 34 0) (s 35 0) (pcn m 7) 0 (pcn m j)
        have hy : (Xf (1 + γ) (s 35 0) (pcn m j)).1 = U (g 38 j) := by
          unfold Xf; rw [a2]; exact tF_1 (by omega)
        have hmu : WN (1 + γ) (s 34 0) (pcn m 7) (pcn m j) 0 * U (g 38 j) < 1019 * 1019 := Nat.mul_lt_mul_of_lt_of_lt (by omega) (by omega)
        rw [if_pos hbj, if_neg (show ¬ I 1 = 0 by decide), hw, Option.bind_some, if_pos hj7, h10, if_pos hqn, I_m2, I_cl (by omega)]
        have hval : jrem (I (VN (1 + γ) (s 34 0) (s 35 0) (pcn m 7) 0 (pcn m j)) + I (WN (1 + γ) (s 34 0) (pcn m 7) (pcn m j) 0) * g 38 j) (I (qg γ)) = I (VN (1 + γ) (s 34 0) (s 35 0) (pcn m 7) 0 (pcn m (j + 1))) := by
          rw [hpb, VN_s, hy]
          have e38 : g 38 j = I (U (g 38 j)) := a3.1
          generalize U (g 38 j) = u at e38 a4 hmu
          rw [e38, I_mul, I_add, I_rem (by omega) (by omega)]
          refine congrArg I ?_
          rw [fadq hγ, fmuq hγ, Nat.add_mod_mod]
        rw [hval, Option.bind_some]
        simp only [jlet]
        exact ihj
      · rw [if_neg hbj] at hpb
        rw [if_neg hbj, if_pos (show I 0 = 0 from rfl), Option.bind_some]
        simp only [jlet]
        rw [hpb] at ihj
        exact ihj
theorem mz_spec {s : jU} {g : jS} {γ m : Nat} (hγ : γ < 2) (h : Ptm s g γ m) (h10 : g 10 0 = I (qg γ)) : letI := Fd_cr (1 + γ); f_Mod_atZero (I m) g = some (I (VN (1 + γ) (s 34 0) (s 35 0) (pcn m 7) 0 (pcn m 7))) ∧ f_Points_valueAt 1 (I 0) s = some (I (VN (1 + γ) (s 34 0) (s 35 0) (pcn m 7) 0 (pcn m 7))) := by
  letI := Fd_cr (1 + γ)
  have hP := Ptm_pt hγ h
  refine ⟨?_, va_spec (k0 := 1) (v := (0 : FdM (1 + γ))) hP h.2.1 h.2.2.1⟩
  unfold f_Mod_atZero
  obtain ⟨z, e⟩ := mz_loop hγ h h10 7 0 jF (by omega) (by unfold jF; omega)
  rw [show L_Mod_atZero_4 (I m) g jF 0 1 = _ from e]; rfl

/-! ===== round 7 ===== -/
theorem pcn_adA : ∀ m < 128, ∀ j < 8, (1 ≤ j ∧ m < 2 ^ (j - 1)) → (pcn (m ||| 2 ^ (j - 1)) 7 = pcn m 7 + 1 ∧ pcn (m ||| 2 ^ (j - 1)) (j - 1) = pcn m 7) ∧ (m ||| 2 ^ (j - 1)) < 2 ^ j := by decide +kernel
theorem pcn_adB : ∀ m < 128, ∀ j < 8, ∀ k < 8, (1 ≤ j ∧ m < 2 ^ (j - 1) ∧ k ≤ j) → pcn (m ||| 2 ^ (j - 1)) (k - 1) = pcn m (k - 1) := by decide +kernel
theorem pcn_add (m : Nat) (hm : m < 128) (j : Nat) (hj : j < 8) (h : 1 ≤ j ∧ m < 2 ^ (j - 1)) : pcn (m ||| 2 ^ (j - 1)) 7 = pcn m 7 + 1 ∧ pcn (m ||| 2 ^ (j - 1)) (j - 1) = pcn m 7 ∧ (m ||| 2 ^ (j - 1)) < 2 ^ j ∧ ∀ k < 8, k ≤ j → pcn (m ||| 2 ^ (j - 1)) (k - 1) = pcn m (k - 1) := by
  obtain ⟨⟨a, b⟩, c⟩ := pcn_adA m hm j hj h
  exact ⟨a, b, c, fun k hk hkj => pcn_adB m hm j hj k hk ⟨h.1, h.2, hkj⟩⟩
theorem bt_high {m j k : Nat} (h : m < 2 ^ (j - 1)) (hk : j ≤ k) : bt m k = false := by
  unfold bt
  exact Nat.testBit_lt_two_pow (Nat.lt_of_lt_of_le h (Nat.pow_le_pow_right (by decide) (by omega)))
theorem padd_spec {s : jU} {g : jS} {γ m j : Nat} {v : Int32} (hj : 1 ≤ j ∧ j ≤ 7) (h : Ptm s g γ m) (hm : m < 2 ^ (j - 1)) (hv : OK (qg γ) v) : ∃ s', f_Points_add 1 (I j) v s = some s' ∧ FrC [34, 35, 37] s s' ∧ Ptm s' (va_up g 38 (upd (g 38) (j - 1) v)) γ (m ||| 2 ^ (j - 1)) := by
  obtain ⟨h1, h52, h37, hp⟩ := h
  obtain ⟨q1, q2, q3, q4⟩ := pcn_add m h1 j (by omega) ⟨hj.1, hm⟩
  have h7 := pcn_7 m h1
  refine ⟨ups (ups (ups s 34 0 (upd (s 34 0) (pcn m 7) (I j))) 35 0 (upd (s 35 0) (pcn m 7) v)) 37 0 (fun _ => I (pcn m 7 + 1)), ?_, ?_, ?_⟩
  · unfold f_Points_add
    have hj12 : jin (I (pcn m 7)) 12 := by rw [I_jin (by omega)]; omega
    rw [show s (33 + 4 * 1) 0 0 = I (pcn m 7) from h37, if_neg (show ¬ 12 ≤ I (pcn m 7) by rw [I12, I_le (by omega) (by omega)]; omega), if_pos hj12, I_cl (by omega)]
    simp only [jlet]
    rw [if_pos (show jin (ups s (30 + 4 * 1) 0 (upd (s (30 + 4 * 1) 0) (pcn m 7) (I j)) (33 + 4 * 1) 0 0) 12 by show jin (s 37 0 0) 12; rw [h37]; exact hj12)]
    have e2 : ups s (30 + 4 * 1) 0 (upd (s (30 + 4 * 1) 0) (pcn m 7) (I j)) (33 + 4 * 1) 0 0 = I (pcn m 7) := h37
    rw [e2, I_cl (by omega)]
    have e3 : ups (ups s (30 + 4 * 1) 0 (upd (s (30 + 4 * 1) 0) (pcn m 7) (I j))) (31 + 4 * 1) 0 (upd (ups s (30 + 4 * 1) 0 (upd (s (30 + 4 * 1) 0) (pcn m 7) (I j)) (31 + 4 * 1) 0) (pcn m 7) v) (33 + 4 * 1) 0 0 = I (pcn m 7) := h37
    rw [e3, I1, I_add]; rfl
  · exact ((FrC.up (l := [34, 35, 37]) (by simp)).tr (FrC.up (l := [34, 35, 37]) (by simp)) (fun _ h => h) (fun _ h => h)).tr (FrC.up (l := [34, 35, 37]) (by simp)) (fun _ h => h) (fun _ h => h)
  · refine ⟨or_lt h1 (by omega), h52, by rw [q1]; rfl, fun k k1 k7 hb => ?_⟩
    rw [ups_nK (show 34 ≠ 37 by decide), ups_nK (show 35 ≠ 37 by decide), ups_nK (show 34 ≠ 35 by decide), ups_eq, ups_eq, vu_eq]
    by_cases e : k = j
    · subst e
      rw [q2, upd_eq, upd_eq, upd_eq]; exact ⟨rfl, rfl, hv⟩
    · rw [bt_oth hj.1 k1 e] at hb
      have hkj : k < j := by
        false_or_by_contra
        have := bt_high hm (k := k) (by omega)
        rw [this] at hb; cases hb
      have hl := pcn_lt7 m h1 k (by omega) k1 hb
      rw [q4 k (by omega) (by omega), upd_ne (by omega), upd_ne (by omega), upd_ne (by omega)]
      exact hp k k1 k7 hb
theorem open_same (x : Int32) : ∀ (n : Nat) (a b : Int32) (s : jS), L_Mod_open_76_2 x n a b s = L_Mod_open_76 x n a b s
  | 0, _, _, _ => rfl
  | n + 1, a, b, s => by
    rw [L_Mod_open_76_2, L_Mod_open_76]
    simp only [open_same x n]
def LO (x : Int32) (n : Nat) (y : Int32) (z : Int32 × jS) : Option (Int32 × (Int32 × jS)) := Option.map (fun r => (r.2.1, (r.1, r.2.2))) (L_Mod_open_76 x n z.1 y z.2)
theorem Ptm_fr {s s' : jU} {g g' : jS} {γ m : Nat} {l k : List Nat} (h : Ptm s g γ m) (a : FrC l s s') (b : FrM k g g') (hl : ∀ K ∈ [34, 35, 37, 52], K ∉ l) (hk : 38 ∉ k) : Ptm s' g' γ m := by
  unfold Ptm at *
  rw [a 52 (hl 52 (by simp)), a 37 (hl 37 (by simp)), a 34 (hl 34 (by simp)), a 35 (hl 35 (by simp)), b 38 hk]; exact h
theorem col_one {s : jU} {g : jS} {γ n t i b dm : Nat} (hC : Cx s g γ n t) (hi : 1 ≤ i ∧ i ≤ n) (hB : rBo s g b) (hb : b + 49 ≤ 1050) (hD : rDe s g γ n t dm) (hdi : bt dm i = true) : ∃ s' g' m b', f_Room_collectNumbers (I i) s = some s' ∧ (∃ y, L_Mod_open_76 (I i) jF 0 1 g = some (I m, y, g')) ∧ Ptm s' g' γ m ∧ popc m ≤ t ∧ rBo s' g' b' ∧ b' ≤ b + 49 ∧ FrC [34, 35, 37, 40, 41, 52] s s' ∧ FrM [38, 40, 41] g g' := by
  obtain ⟨⟨-, h53', -, -, hγ⟩, ⟨-, -, -, -, ht1, htn, hn7⟩, -⟩ := id hC
  obtain ⟨hD1, ⟨hD2, hD3, hD4⟩, hD5, hD6⟩ := id hD
  have hq := qg_b γ
  -- the points are cleared
  have hF0 : FrC [34, 35, 37, 40, 41, 52] s (ups (ups s 52 0 (fun _ => Int32.ofNat (1 + γ))) 37 0 (fun _ => 0)) := (FrC.up (l := [34, 35, 37, 40, 41, 52]) (by simp)).tr (FrC.up (l := [34, 35, 37, 40, 41, 52]) (by simp)) (fun _ h => h) (fun _ h => h)
  obtain ⟨s', z', e1, e2, -, m, c0, c1, c2, c3, c4, c5, b', c6, c7⟩ := loop2 (L_Room_collectNumbers_13 (I i)) (LO (I i)) (n + 1) (fun j s1 z => 1 ≤ j ∧ ∃ m, z.1 = I m ∧ m < 2 ^ (j - 1) ∧ Ptm s1 z.2 γ m ∧ popc m ≤ t ∧ FrC [34, 35, 37, 40, 41, 52] s s1 ∧ FrM [38, 40, 41] g z.2 ∧ ∃ b', rBo s1 z.2 b' ∧ b' ≤ b + 7 * (j - 1))
    (fun a mm j s1 z hj hP => by
      obtain ⟨d0, m, d1, d2, d3, d4, d5, d6, b1, d7, d8⟩ := hP
      obtain ⟨x, g1⟩ := z
      simp only at d1 d3 d6 d7
      subst d1
      have hC1 := hC.fr d5 d6 (by decide) (by decide)
      obtain ⟨⟨h50, h53, h9, h10, -⟩, ⟨h20, h11, h21, h12, -⟩, hT, hCo, hFa, hCr⟩ := id hC1
      have hlt : ¬ I n < I j := by rw [I_lt (by omega) (by omega)]; omega
      obtain ⟨w1, w2⟩ := cwork hCr (p := j) (r := 7) ⟨d0, by omega⟩ (by omega)
      have hm := d3.1
      have hpl := popc_lt m hm
      have hmj : m < 2 ^ (j + 1 - 1) := Nat.lt_of_lt_of_le d2 (Nat.pow_le_pow_right (by decide) (by omega))
      by_cases hw : 7 < U (s1 10 (j - 1) 0)
      · rw [if_pos hw] at w1 w2
        obtain ⟨n5a, n5b⟩ := (hD5 (i - 1) (by omega) (j - 1) (by omega)).1 (by rw [show i - 1 + 1 = i from by omega]; exact hdi) (by omega)
        obtain ⟨n6a, n6b⟩ := (hD6 (i - 1) (by omega) (j - 1) (by omega)).1 (by rw [show i - 1 + 1 = i from by omega]; exact hdi) (by omega)
        rw [show i - 1 + 1 = i from by omega] at n5a n5b n6a n6b
        have u5 := n5b.2
        have x5 : s1 5 = s 5 := d5 5 (by decide)
        have x6 : s1 6 = s 6 := d5 6 (by decide)
        have y30 : g1 30 = g 30 := d6 30 (by decide)
        have y31 : g1 31 = g 31 := d6 31 (by decide)
        have E3 : ∀ k < t, s 3 (i - 1) k = el γ (U (g 34 (7 * (i - 1) + k))) ∧ OK (qg γ) (g 34 (7 * (i - 1) + k)) := fun k hk => (hD4 (i - 1) (by omega) k (by omega)).1 (by rw [show i - 1 + 1 = i from by omega]; exact hdi) hk
        have hi8 : jin (I i) 8 := by rw [I_jin (by omega)]; omega
        have hk49 : jin (I (7 * (i - 1) + (j - 1))) 49 := by rw [I_jin (by omega)]; omega
        have hj7 : jin (I j - 1) 7 := by rw [I1, I_sub d0, I_jin (by omega)]; omega
        have hjcl : (I j - 1).toNatClampNeg = j - 1 := by rw [I1, I_sub d0, I_cl (by omega)]
        have hqn : ¬ I (qg γ) = 0 := by rw [I0, I_eq (by omega) (by omega)]; omega
        -- the shown number
        have hV : ∃ V, OK (qg γ) V ∧ (Option.bind (f_Party_has (j - 1) 6 s1) fun x23 => if x23 = 0 then some (s1 5 (j - 1) i) else Option.bind (F_plus (fnum (s1 53 0 0)) (s1 5 (j - 1) i) 1) fun x26 => some x26) = some V ∧ ∃ x24 : Int32, (Option.bind (f_Mod_is (I j) 6 g1) fun x21 => if x21 = 0 then some (0 : Int32) else some 1) = some x24 ∧ jrem (g1 30 (7 * (i - 1) + (j - 1)) + x24) (I (qg γ)) = V := by
          rw [show f_Party_has (j - 1) 6 s1 = _ from chas_spec (k := 6) (by omega), show f_Mod_is (I j) 6 g1 = _ from mis_spec (k := 6) hFa ⟨d0, by omega⟩ (by omega) (by omega), Option.bind_some, Option.bind_some, x5, h53, fnum_q hγ, y30, n5a]
          by_cases hf : s1 2 (j - 1) 6 = I 0
          · rw [if_pos hf, if_pos (show I 0 = 0 from rfl), if_pos (show I 0 = 0 from rfl)]
            refine ⟨s 5 (j - 1) i, n5b, rfl, 0, rfl, ?_⟩
            have : s 5 (j - 1) i + 0 = I (U (s 5 (j - 1) i)) := by rw [Int32.add_zero]; exact n5b.1
            rw [this, I_rem (by omega) (by omega), Nat.mod_eq_of_lt u5, ← n5b.1]
          · rw [if_neg hf, if_neg (show ¬ I 1 = 0 by decide), if_neg (show ¬ I 1 = 0 by decide)]
            have e1 : F_plus (1 + γ) (s 5 (j - 1) i) 1 = some (I ((U (s 5 (j - 1) i) + 1) % qg γ)) := by
              have := F_pl (a := U (s 5 (j - 1) i)) (b := 1) hγ (by omega) (by omega)
              rw [← n5b.1] at this; exact this
            have e2 : jrem (s 5 (j - 1) i + 1) (I (qg γ)) = I ((U (s 5 (j - 1) i) + 1) % qg γ) := by
              have : s 5 (j - 1) i + 1 = I (U (s 5 (j - 1) i) + 1) := by rw [← I_add, ← n5b.1]; rfl
              rw [this, I_rem (by omega) (by omega)]
            rw [e1]
            exact ⟨_, OK_I (Nat.mod_lt _ (by omega)) (by omega), rfl, 1, rfl, e2⟩
        obtain ⟨V, hV1, hV2, x24, hV3, hV4⟩ := hV
        obtain ⟨s2, s3, g3, a1, a2, a3, a4, a5, a5', a6⟩ := wnums (c := 7) (p := j) (o := i) (u := U V) (v := U (s 6 (j - 1) i)) d7 (by omega) (by omega) (by omega) (by omega) (by have := hV1.2; omega) (by have := n6b.2; omega)
        rw [← hV1.1, ← n6b.1] at a2 a3
        have hC3 := hC1.fr a5 a6 (by decide) (by decide)
        obtain ⟨⟨k50, k53, k9, k10, -⟩, ⟨k20, k11, k21, k12, -⟩, kT, kCo, kFa, kCr⟩ := id hC3
        have F3 : FrC [34, 35, 37, 40, 41, 52] s s3 := d5.tr a5 (fun _ h => h) (by decide)
        have G3 : FrM [38, 40, 41] g g3 := d6.tr a6 (fun _ h => h) (by decide)
        have P3 : Ptm s3 g3 γ m := Ptm_fr d3 a5 a6 (by decide) (by decide)
        have cf : f_Room_fits (I i) (I j) V (s 6 (j - 1) i) s3 = some (if (U V + hh γ * U (s 6 (j - 1) i)) % qg γ = hs (fun k => U (g 34 (7 * (i - 1) + k))) j t % qg γ then 1 else 0) := cfitsU (c := fun k => U (g 34 (7 * (i - 1) + k))) hγ k50 k21 (by omega) ⟨hi.1, by omega⟩ (by omega) (fun k hk => by rw [F3 3 (by decide)]; exact ⟨(E3 k hk).1, (E3 k hk).2.2⟩) (OK_mono hV1 (by omega)) (OK_mono n6b (by omega))
        have mf : f_Mod_fits (I i) (I j) V (s 6 (j - 1) i) g3 = some (if (U V + hh γ * U (s 6 (j - 1) i)) % qg γ = hs (fun k => U (g 34 (7 * (i - 1) + k))) j t % qg γ then 1 else 0) := mfitsU (c := fun k => U (g 34 (7 * (i - 1) + k))) hγ k9 (kT.2.2.1 γ hγ) k10 k12 (by omega) ⟨hi.1, by omega⟩ (by omega) (fun k hk => by rw [G3 34 (by decide)]; exact ⟨(E3 k hk).2.1, (E3 k hk).2.2⟩) (OK_mono hV1 (by omega)) (OK_mono n6b (by omega))
        have hsz : s3 (33 + 4 * 1) 0 0 = I (popc m) := by rw [show s3 (33 + 4 * 1) 0 0 = s3 37 0 0 from rfl, P3.2.2.1, pcn_pop m hm]
        have ec : L_Room_collectNumbers_13 (I i) (a + 1) (I j) s1 = Option.bind (if I t ≤ I (popc m) then some s3 else if (U V + hh γ * U (s 6 (j - 1) i)) % qg γ = hs (fun k => U (g 34 (7 * (i - 1) + k))) j t % qg γ then Option.bind (f_Points_add 1 (I j) V s3) fun s43 => some s43 else some s3) fun s46 => L_Room_collectNumbers_13 (I i) a (I (j + 1)) s46 := by
          rw [L_Room_collectNumbers_13, h20, if_neg hlt, jidx_P ⟨d0, by omega⟩, Option.bind_some, show f_Party_worksIn (j - 1) 7 s1 = _ from w1, Option.bind_some, if_pos (show ¬ I 1 = 0 by decide), if_pos hi8, I_cl (show i < 2147483648 by omega)]
          simp only [jlet]
          have hsel : ∀ F : Int32 → Option jU, (Option.bind (f_Party_has (j - 1) 6 s1) fun x23 => Option.bind (if x23 = 0 then some (s1 5 (j - 1) i) else Option.bind (F_plus (fnum (s1 53 0 0)) (s1 5 (j - 1) i) 1) fun x26 => some x26) F) = F V := fun F => by
            rw [← Option.bind_assoc, hV2, Option.bind_some]
          rw [hsel, if_pos hi8, x6, show f_Board_write 7 (I j) s1 = _ from a1, Option.bind_some, a2, Option.bind_some]
          unfold f_Points_size
          rw [hsz, Option.bind_some, k21, cf, Option.bind_some, I1, I_add]
          by_cases ht : I t ≤ I (popc m)
          · rw [if_pos ht, if_pos ht]
          · rw [if_neg ht, if_neg ht]
            split
            · rw [if_neg (show ¬ I 1 = 0 by decide)]
            · rw [if_pos (show (0 : Int32) = 0 from rfl)]
        have em : L_Mod_open_76 (I i) (mm + 1) (I m) (I j) g1 = Option.bind (if (U V + hh γ * U (s 6 (j - 1) i)) % qg γ = hs (fun k => U (g 34 (7 * (i - 1) + k))) j t % qg γ then (if I t ≤ I (popc m) then some (I m, g3) else some (I (m ||| 2 ^ (j - 1)), va_up g3 38 (upd (g3 38) (j - 1) V))) else some (I m, g3)) fun r => L_Mod_open_76 (I i) mm r.1 (I (j + 1)) r.2 := by
          rw [L_Mod_open_76, h11, if_neg hlt, show f_Mod_works (I j) 7 g1 = _ from w2, Option.bind_some, if_pos (show ¬ I 1 = 0 by decide)]
          simp only [f_Mod_at, ix8 hi.1 d0, Option.bind_some, jlet]
          simp only [I_cl (show 7 * (i - 1) + (j - 1) < 2147483648 by omega), h10, if_pos hqn, if_pos hk49]
          have hsel : ∀ F : Int32 → Option (Int32 × jS), (Option.bind (f_Mod_is (I j) 6 g1) fun x21 => Option.bind (if x21 = 0 then some (0 : Int32) else some 1) F) = F x24 := fun F => by
            rw [← Option.bind_assoc, hV3, Option.bind_some]
          rw [hsel, hV4, y31, n6a, show f_Mod_showNumbers 7 (I j) (I i) V (s 6 (j - 1) i) g1 = _ from a3, Option.bind_some]
          rw [show g3 31 = g 31 from G3 31 (by decide), n6a, mf, Option.bind_some, B_bits m hm, Option.bind_some, k12, if_pos hj7, hjcl, B_bit d0 (by omega), B_or m hm _ (p2_lt (by omega)), show I j + 1 = I (j + 1) from I_add j 1]
          split
          · rw [if_neg (show ¬ (1 : Int32) = 0 by decide)]
          · rw [if_pos (show (0 : Int32) = 0 from rfl)]
        have keep : ∃ s' z', (1 ≤ j + 1 ∧ ∃ m, z'.1 = I m ∧ m < 2 ^ (j + 1 - 1) ∧ Ptm s' z'.2 γ m ∧ popc m ≤ t ∧ FrC [34, 35, 37, 40, 41, 52] s s' ∧ FrM [38, 40, 41] g z'.2 ∧ ∃ b', rBo s' z'.2 b' ∧ b' ≤ b + 7 * (j + 1 - 1)) ∧ s' = s3 ∧ z' = (I m, g3) := ⟨s3, (I m, g3), ⟨by omega, m, rfl, hmj, P3, d4, F3, G3, _, a4, by omega⟩, rfl, rfl⟩
        have em2 : LO (I i) (mm + 1) (I j) (I m, g1) = Option.map (fun r => (r.2.1, (r.1, r.2.2))) (L_Mod_open_76 (I i) (mm + 1) (I m) (I j) g1) := rfl
        by_cases ht : I t ≤ I (popc m)
        · obtain ⟨s4, z4, inv, rfl, rfl⟩ := keep
          refine ⟨s4, (I m, g3), inv, ?_, ?_⟩
          · rw [ec, if_pos ht]; rfl
          · rw [em2, em, if_pos ht]
            split <;> rfl
        · by_cases hfit : (U V + hh γ * U (s 6 (j - 1) i)) % qg γ = hs (fun k => U (g 34 (7 * (i - 1) + k))) j t % qg γ
          · rw [I_le (by omega) (by omega)] at ht
            obtain ⟨s5, r1, r2, r3⟩ := padd_spec (j := j) ⟨d0, by omega⟩ P3 d2 hV1
            obtain ⟨q1, q2, q3, q4⟩ := pcn_add m hm j (by omega) ⟨d0, d2⟩
            have hml := or_lt (m := m) (j := j) hm (by omega)
            refine ⟨s5, (I (m ||| 2 ^ (j - 1)), va_up g3 38 (upd (g3 38) (j - 1) V)), ⟨by omega, m ||| 2 ^ (j - 1), rfl, ?_, r3, ?_, F3.tr r2 (fun _ h => h) (by decide), G3.tr (FrM.up (l := [38]) (by simp)) (fun _ h => h) (by decide), b1 + 7, ?_, by omega⟩, ?_, ?_⟩
            · rw [show j + 1 - 1 = j from by omega]; exact q3
            · rw [← pcn_pop _ hml, q1, pcn_pop m hm]; omega
            · unfold rBo at *
              rw [r2 41 (by decide), r2 40 (by decide)]; exact a4
            · rw [ec, if_neg (show ¬ I t ≤ I (popc m) by rw [I_le (by omega) (by omega)]; exact ht), if_pos hfit, r1]; rfl
            · rw [em2, em, if_neg (show ¬ I t ≤ I (popc m) by rw [I_le (by omega) (by omega)]; exact ht), if_pos hfit]; rfl
          · obtain ⟨s4, z4, inv, rfl, rfl⟩ := keep
            refine ⟨s4, (I m, g3), inv, ?_, ?_⟩
            · rw [ec, if_neg ht, if_neg hfit]; rfl
            · rw [em2, em, if_neg hfit]; rfl
      · rw [if_neg hw] at w1 w2
        refine ⟨s1, (I m, g1), ⟨by omega, m, rfl, hmj, d3, d4, d5, d6, b1, d7, by omega⟩, ?_, ?_⟩
        · rw [L_Room_collectNumbers_13, h20, if_neg hlt, jidx_P ⟨d0, by omega⟩, Option.bind_some, show f_Party_worksIn (j - 1) 7 s1 = _ from w1, Option.bind_some, if_neg (show ¬ ¬ I 0 = 0 from fun e => e rfl)]
          simp only [jlet, I1, I_add, Option.bind_some]
        · show Option.map _ (L_Mod_open_76 (I i) (mm + 1) (I m) (I j) g1) = Option.map _ _
          congr 1
          rw [L_Mod_open_76, h11, if_neg hlt, show f_Mod_works (I j) 7 g1 = _ from w2, Option.bind_some, if_neg (show ¬ ¬ I 0 = 0 from fun e => e rfl)]
          simp only [jlet, I1, I_add, Option.bind_some])
    (fun a mm s1 z hP => by
      obtain ⟨d0, m, d1, d2, d3, d4, d5, d6, b1, d7, d8⟩ := hP
      obtain ⟨-, ⟨h20, h11, -⟩, -⟩ := hC.fr d5 d6 (by decide) (by decide)
      have hlt : I n < I (n + 1) := by rw [I_lt (by omega) (by omega)]; omega
      refine ⟨?_, ?_⟩
      · rw [L_Room_collectNumbers_13, h20, if_pos hlt]
      · unfold LO
        rw [L_Mod_open_76, h11, if_pos hlt]; rfl) n 1 jF jF (ups (ups s 52 0 (fun _ => Int32.ofNat (1 + γ))) 37 0 (fun _ => 0)) (I 0, g) (by omega) (by unfold jF; omega) (by unfold jF; omega) ⟨by omega, 0, rfl, by decide, ⟨by omega, rfl, rfl, fun j _ _ h => (bt0f h).elim⟩, by show popc 0 ≤ t; rw [show popc 0 = 0 from by decide]; omega, hF0, FrM.rf, b, hB, by omega⟩
  obtain ⟨x, g'⟩ := z'
  simp only at c0 c2 c5 c6
  subst c0
  refine ⟨s', g', m, b', ?_, ?_, c2, c3, c6, by omega, c4, c5⟩
  · unfold f_Room_collectNumbers f_Points_clear
    rw [h53', fnum_q hγ]
    simp only [jlet, Option.bind_some]
    show Option.bind (L_Room_collectNumbers_13 (I i) jF 1 (ups (ups s 52 0 (fun _ => Int32.ofNat (1 + γ))) 37 0 (fun _ => 0))) _ = _
    rw [show L_Room_collectNumbers_13 (I i) jF 1 _ = _ from e1]; rfl
  · have e3 : Option.map (fun r : Int32 × Int32 × jS => (r.2.1, (r.1, r.2.2))) (L_Mod_open_76 (I i) jF 0 1 g) = some (I (n + 1), (I m, g')) := e2
    cases hL : L_Mod_open_76 (I i) jF 0 1 g with
    | none => rw [hL] at e3; cases e3
    | some r =>
      rw [hL] at e3
      obtain ⟨r1, r2, r3⟩ := r
      simp at e3
      obtain ⟨q1, q2, q3⟩ := e3
      exact ⟨r2, by rw [q2, q3]⟩

/-- both loops of the round, with what they carry in the state -/
def LRC (n : Nat) (x : Int32) (z : Int32 × jU) : Option (Int32 × (Int32 × jU)) := Option.map (fun r => (r.2.1, (r.1, r.2.2))) (L_Room_openAll_4 n z.1 x z.2)
def LRM (n : Nat) (x : Int32) (z : Int32 × jS) : Option (Int32 × (Int32 × jS)) := Option.map (fun r => (r.2.1, (r.1, r.2.2))) (L_Mod_open_4 n z.1 x z.2)
def rOp (s : jU) (g : jS) : Prop := g 27 0 = s 26 0 0 ∧ OK 128 (s 26 0 0)
def opC (x10 x11 : Int32) (s12 : jU) : Option (Int32 × jU) := Option.bind (f_Room_collectNumbers x11 s12) fun s21 =>
            Option.bind (f_Points_size 1 s21) fun x23 =>
            if (s21 21 0 0) ≤ x23 then
              Option.bind (f_SR_bit x11) fun x26 =>
              jlet (ups s21 26 0 (fun _ => (s21 26 0 0) ||| x26)) fun s27 =>
              Option.bind (f_Points_valueAt 1 0 s27) fun x30 =>
              Option.bind (f_Group_power (gnum (s27 50 0 0)) (ggen (gnum (s27 50 0 0))) x30) fun x32 =>
              Option.bind (G_product (gnum (s27 50 0 0)) (s27 27 0 0) x32) fun x34 =>
              jlet (ups s27 27 0 (fun _ => x34)) fun s35 =>
              some (x10, s35)
            else
              some (1, s21)
def opM (x1 x2 : Int32) (s3 : jS) : Option (Int32 × jS) := Option.bind (L_Mod_open_76 x2 jF 0 1 s3) fun (x55, x56, s57) =>
            Option.bind (α := Int32) (
              if ¬ (s57 17 0) = 0 then
                some 1
              else
                Option.bind (f_Mod_bits x55) fun x60 =>
                if (s57 12 0) ≤ x60 then
                  some 0
                else
                  some 1) fun x63 =>
            if jbo x63 then
            jlet (va_up s57 17 (fun _ => x63)) fun s66 =>
            Option.bind (f_Mod_bits x55) fun x69 =>
            Option.bind (α := Int32) (
              if (s66 12 0) ≤ x69 then
                some (1 <<< ((x2 - 1) &&& 31))
              else
                some 0) fun x72 =>
            jlet (va_up s66 27 (fun _ => (s66 27 0) ||| x72)) fun s75 =>
            Option.bind (f_Mod_atZero x55 s75) fun x77 =>
            if ¬ (s75 10 0) = 0 then
            jlet (jrem (x1 + x77) (s75 10 0)) fun x80 =>
            some (x80, s75)
            else none
            else none
theorem op_spec {s : jU} {g : jS} {γ n t i b dm v e ec : Nat} (hC : Cx s g γ n t) (hi : 1 ≤ i ∧ i ≤ n) (hB : rBo s g b) (hb : b + 49 ≤ 1050) (hD : rDe s g γ n t dm) (hdi : bt dm i = true) (hv : v = 0 ∨ v = 1) (h17 : g 17 0 = I v) (he : e < qg γ) (hec : ec < qg γ) (hk : s 27 0 0 = el γ ec) (hke : v = 0 → ec = e) (hO : rOp s g) : ∃ s' g' v' e' ec' b', opC (I v) (I i) s = some (I v', s') ∧ opM (I e) (I i) g = some (I e', g') ∧ (v' = 0 ∨ v' = 1) ∧ g' 17 0 = I v' ∧ e' < qg γ ∧ ec' < qg γ ∧ s' 27 0 0 = el γ ec' ∧ (v' = 0 → ec' = e') ∧ rOp s' g' ∧ rBo s' g' b' ∧ b' ≤ b + 49 ∧ FrC [26, 27, 34, 35, 37, 40, 41, 52] s s' ∧ FrM [17, 27, 38, 40, 41] g g' := by
  obtain ⟨⟨-, -, -, -, hγ⟩, ⟨-, -, -, -, ht1, htn, hn7⟩, -⟩ := id hC
  have hq := qg_b γ
  obtain ⟨s1, g1, m, b1, c1, ⟨y, c2⟩, c3, c4, c5, c6, c7, c8⟩ := col_one hC hi hB hb hD hdi
  have hC1 := hC.fr c7 c8 (by decide) (by decide)
  obtain ⟨⟨h50, h53, h9, h10, -⟩, ⟨h20, h11, h21, h12, -⟩, hT, -⟩ := id hC1
  have hm := c3.1
  have hpl := popc_lt m hm
  have hqn : ¬ I (qg γ) = 0 := by rw [I0, I_eq (by omega) (by omega)]; omega
  have hsz : s1 (33 + 4 * 1) 0 0 = I (popc m) := by rw [show s1 (33 + 4 * 1) 0 0 = s1 37 0 0 from rfl, c3.2.2.1, pcn_pop m hm]
  have k17 : g1 17 0 = I v := by rw [c8 17 (by decide)]; exact h17
  have kO : rOp s1 g1 := by
    unfold rOp at *
    rw [c7 26 (by decide), c8 27 (by decide)]; exact hO
  obtain ⟨o1, o2⟩ := kO
  have k27 : s1 27 0 0 = el γ ec := by rw [c7 27 (by decide)]; exact hk
  have hol := or_lt (m := U (s1 26 0 0)) (j := i) o2.2 (by omega)
  have eo : s1 26 0 0 ||| I (2 ^ (i - 1)) = I (U (s1 26 0 0) ||| 2 ^ (i - 1)) := by
    rw [← B_or _ o2.2 _ (p2_lt (by omega)), ← o2.1]
  letI := Fd_cr (1 + γ)
  have hvl := VN_lt (1 + γ) (s1 34 0) (s1 35 0) (pcn m 7) 0 (pcn m 7)
  rw [qf_qg hγ] at hvl
  have hmz : ∀ s' g', FrC [26, 27] s1 s' → FrM [17, 27] g1 g' → f_Mod_atZero (I m) g' = some (I (VN (1 + γ) (s1 34 0) (s1 35 0) (pcn m 7) 0 (pcn m 7))) ∧ f_Points_valueAt 1 (I 0) s' = some (I (VN (1 + γ) (s1 34 0) (s1 35 0) (pcn m 7) 0 (pcn m 7))) := fun s' g' a b => by
    have := mz_spec hγ (Ptm_fr c3 a b (by decide) (by decide)) (by rw [b 10 (by decide)]; exact h10)
    rw [a 34 (by decide), a 35 (by decide)] at this
    exact this
  generalize VN (1 + γ) (s1 34 0) (s1 35 0) (pcn m 7) 0 (pcn m 7) = V at hvl hmz
  have hel : (e + V) % qg γ < qg γ := Nat.mod_lt _ (by omega)
  have hbits := B_bits m hm
  -- the reference
  have hM : ∀ w : Nat, (w = 0 ∨ w = 1) → (if ¬ (g1 17 0) = 0 then some (1 : Int32) else Option.bind (f_Mod_bits (I m)) fun x60 => if (g1 12 0) ≤ x60 then some 0 else some 1) = some (I w) → ∀ x72 : Int32, (if I t ≤ I (popc m) then some ((1 : Int32) <<< ((I i - 1) &&& 31)) else some 0) = some x72 → opM (I e) (I i) g = some (I ((e + V) % qg γ), va_up (va_up g1 17 (fun _ => I w)) 27 (fun _ => s1 26 0 0 ||| x72)) := fun w hw e1 x72 e2 => by
    unfold opM
    rw [c2]
    simp only [Option.bind_some]
    rw [e1, Option.bind_some, if_pos (show jbo (I w) by rcases hw with rfl | rfl; exact Or.inl rfl; exact Or.inr rfl), hbits]
    simp only [jlet, Option.bind_some]
    rw [show va_up g1 17 (fun _ => I w) 12 0 = I t from h12, e2, Option.bind_some]
    have hz := (hmz s1 (va_up (va_up g1 17 (fun _ => I w)) 27 (fun _ => va_up g1 17 (fun _ => I w) 27 0 ||| x72)) FrC.rf ((FrM.up (l := [17, 27]) (by simp)).tr (FrM.up (l := [17, 27]) (by simp)) (fun _ h => h) (fun _ h => h))).1
    rw [hz, Option.bind_some]
    show (if ¬ g1 10 0 = 0 then some (jrem (I e + I V) (g1 10 0), va_up (va_up g1 17 (fun _ => I w)) 27 (fun _ => g1 27 0 ||| x72)) else none) = _
    rw [h10, if_pos hqn, I_add, I_rem (by omega) (by omega), o1]
  have hMfr : ∀ (w : Nat) (x : Int32), FrM [17, 27, 38, 40, 41] g (va_up (va_up g1 17 (fun _ => I w)) 27 (fun _ => x)) := fun w x => (c8.tr (FrM.up (l := [17]) (by simp)) (by decide) (by decide) (l := [17, 27, 38, 40, 41])).tr (FrM.up (l := [27]) (by simp)) (fun _ h => h) (by decide)
  by_cases ht : t ≤ popc m
  · have htI : I t ≤ I (popc m) := by rw [I_le (by omega) (by omega)]; exact ht
    refine ⟨ups (ups s1 26 0 (fun _ => I (U (s1 26 0 0) ||| 2 ^ (i - 1)))) 27 0 (fun _ => el γ ((ec + V) % qg γ)), va_up (va_up g1 17 (fun _ => I v)) 27 (fun _ => s1 26 0 0 ||| I (2 ^ (i - 1))), v, (e + V) % qg γ, (ec + V) % qg γ, b1, ?_, ?_, hv, rfl, hel, Nat.mod_lt _ (by omega), rfl, fun h => by rw [hke h], ⟨eo, OK_I hol (by omega)⟩, c5, c6, ?_, hMfr _ _⟩
    · unfold opC f_Points_size f_SR_bit
      rw [c1, Option.bind_some, hsz, Option.bind_some, h21, if_pos htI, B_bit hi.1 (by omega), Option.bind_some, eo]
      simp only [jlet]
      rw [show f_Points_valueAt 1 0 _ = _ from (hmz (ups s1 26 0 (fun _ => I (U (s1 26 0 0) ||| 2 ^ (i - 1)))) (va_up g1 17 (fun _ => 0)) (FrC.up (by simp)) (FrM.up (by simp))).2, Option.bind_some]
      have e50 : ups s1 26 0 (fun _ => I (U (s1 26 0 0) ||| 2 ^ (i - 1))) 50 0 0 = I γ := h50
      have e27 : ups s1 26 0 (fun _ => I (U (s1 26 0 0) ||| 2 ^ (i - 1))) 27 0 0 = el γ ec := k27
      rw [e50, gnum_q hγ, el_gpow hγ (by omega), Nat.mod_eq_of_lt hvl, Option.bind_some, e27, el_mul hγ hec hvl, Option.bind_some]
    · refine hM v hv ?_ _ ?_
      · rw [k17, hbits, Option.bind_some, h12, if_pos htI]
        rcases hv with rfl | rfl
        · rw [if_neg (show ¬ ¬ I 0 = 0 from fun e => e rfl)]; rfl
        · rw [if_pos (show ¬ I 1 = 0 by decide)]; rfl
      · rw [if_pos htI, B_bit hi.1 (by omega)]
    · exact (c7.tr (FrC.up (l := [26]) (by simp)) (by decide) (by decide) (l := [26, 27, 34, 35, 37, 40, 41, 52])).tr (FrC.up (l := [27]) (by simp)) (fun _ h => h) (by decide)
  · have htI : ¬ I t ≤ I (popc m) := by rw [I_le (by omega) (by omega)]; exact ht
    refine ⟨s1, va_up (va_up g1 17 (fun _ => I 1)) 27 (fun _ => s1 26 0 0 ||| 0), 1, (e + V) % qg γ, ec, b1, ?_, ?_, Or.inr rfl, rfl, hel, hec, k27, fun h => by omega, ⟨?_, o2⟩, c5, c6, ?_, hMfr _ _⟩
    · unfold opC f_Points_size
      rw [c1, Option.bind_some, hsz, Option.bind_some, h21, if_neg htI]; rfl
    · refine hM 1 (Or.inr rfl) ?_ _ ?_
      · rw [k17, hbits, Option.bind_some, h12, if_neg htI]
        rcases hv with rfl | rfl
        · rw [if_neg (show ¬ ¬ I 0 = 0 from fun e => e rfl)]; rfl
        · rw [if_pos (show ¬ I 1 = 0 by decide)]; rfl
      · rw [if_neg htI]
    · show s1 26 0 0 ||| 0 = _
      exact Int32.or_zero
    · exact c7.tr (FrC.rf (l := [])) (by decide) (by decide)
theorem round7 {s : jU} {g : jS} {γ n t b dm em qm : Nat} (hC : Cx s g γ n t) (hB : rBo s g b) (hb : b ≤ 707) (hD : rDe s g γ n t dm) (hE : rEx s g γ t em) (hqm : qm < 128) (h24 : s 24 0 0 = I qm) (h25 : g 25 0 = I qm) (hqd : ∀ i, bt qm (i + 1) = true → bt dm (i + 1) = true) (hA : rAc s g) (hO : rOp s g) (h17 : g 17 0 = I 0) (h27 : s 27 0 0 = el γ 0) : ∃ s' g' b' v e, f_Room_openAll s = some s' ∧ f_Mod_open g = some g' ∧ (v = 0 ∨ v = 1) ∧ s' 22 0 0 = I (2 + v) ∧ g' 16 0 = I (1 - v) ∧ g' 17 0 = I v ∧ g' 39 0 = I e ∧ e < qg γ ∧ (v = 0 → s' 27 0 0 = el γ e) ∧ rOp s' g' ∧ rBo s' g' b' ∧ FrC [22, 26, 27, 34, 35, 37, 40, 41, 52] s s' ∧ FrM [16, 17, 27, 38, 39, 40, 41] g g' := by
  obtain ⟨⟨-, -, -, -, hγ⟩, ⟨-, -, -, -, ht1, htn, hn7⟩, -⟩ := id hC
  obtain ⟨hE1, hE2, hE3, hE4⟩ := id hE
  obtain ⟨hA1, hA2⟩ := hA
  have hq := qg_b γ
  obtain ⟨zc, zm, e1, e2, -, v, e, ec, c1, c2, c3, c4, c5, c6, c7, c8, c9, c10, c11, b', c12, c13⟩ := loop2 LRC LRM (n + 1) (fun i zc zm => 1 ≤ i ∧ ∃ v e ec, (v = 0 ∨ v = 1) ∧ zc.1 = I v ∧ zm.1 = I e ∧ zm.2 17 0 = I v ∧ e < qg γ ∧ ec < qg γ ∧ zc.2 27 0 0 = el γ ec ∧ (v = 0 → ec = e) ∧ rOp zc.2 zm.2 ∧ FrC [26, 27, 34, 35, 37, 40, 41, 52] s zc.2 ∧ FrM [17, 27, 38, 40, 41] g zm.2 ∧ ∃ b', rBo zc.2 zm.2 b' ∧ b' ≤ b + 49 * (i - 1))
    (fun a mm i zc zm hi hP => by
      obtain ⟨d0, v, e, ec, d1, d2, d3, d4, d5, d6, d7, d8, d9, d10, d11, b1, d12, d13⟩ := hP
      obtain ⟨xc, s1⟩ := zc
      obtain ⟨xm, g1⟩ := zm
      simp only at d2 d3 d4 d7 d9 d10 d11 d12
      subst d2
      subst d3
      have hC1 := hC.fr d10 d11 (by decide) (by decide)
      obtain ⟨⟨h50, h53, h9, h10, -⟩, ⟨h20, h11, h21, h12, -⟩, hT, hCo, hFa, hCr⟩ := id hC1
      have hlt : ¬ I n < I i := by rw [I_lt (by omega) (by omega)]; omega
      have hqn : ¬ I (qg γ) = 0 := by rw [I0, I_eq (by omega) (by omega)]; omega
      have k24 : s1 24 0 0 = I qm := by rw [d10 24 (by decide)]; exact h24
      have k25 : g1 25 0 = I qm := by rw [d11 25 (by decide)]; exact h25
      have x13 : s1 13 (i - 1) 0 = I (if bt em i then 1 else 0) := by
        rw [d10 13 (by decide), hE3 (i - 1) (by omega), show i - 1 + 1 = i from by omega]
      have y24 : g1 24 0 = I em := by rw [d11 24 (by decide)]; exact hE1
      have x25 : s1 25 0 0 = s 25 0 0 := by rw [d10 25 (by decide)]
      have y26 : g1 26 0 = s 25 0 0 := by rw [d11 26 (by decide)]; exact hA1
      have hD1 : rDe s1 g1 γ n t dm := by
        unfold rDe rEl rNu at *
        rw [d10 12 (by decide), d10 3 (by decide), d10 5 (by decide), d10 6 (by decide), d11 23 (by decide), d11 34 (by decide), d11 30 (by decide), d11 31 (by decide)]
        exact hD
      have hin26 : f_Mod_in (g1 26 0) (I i) = some (I (if bt (U (s 25 0 0)) i then 1 else 0)) := by
        have := min_spec (m := U (s 25 0 0)) (k := i) hA2.2 d0 (by omega)
        rw [y26]; rw [← hA2.1] at this; exact this
      have htst : ∀ A B : Option (Int32 × jU), (Option.bind (f_SR_bit (I i)) fun x38 => if ¬ (s1 25 0 0 &&& x38) = 0 then A else B) = if bt (U (s 25 0 0)) i = true then A else B := fun A B => by
        unfold f_SR_bit
        rw [B_bit d0 (by omega), Option.bind_some, x25]
        have ee := B_tst (U (s 25 0 0)) hA2.2 (i - 1) (by omega)
        rw [← hA2.1] at ee
        by_cases hb : bt (U (s 25 0 0)) i = true
        · have hn : ¬ (U (s 25 0 0)).testBit (i - 1) = false := by unfold bt at hb; rw [hb]; decide
          rw [if_pos (fun he => hn (ee.mp he)), if_pos hb]
        · have hn : (U (s 25 0 0)).testBit (i - 1) = false := by unfold bt at hb; simpa using hb
          rw [if_neg (fun h => h (ee.mpr hn)), if_neg hb]
      -- one turn of each
      have eqC : L_Room_openAll_4 (a + 1) (I v) (I i) s1 = Option.bind (if bt qm i = true then (if bt em i = true then (if bt (U (s 25 0 0)) i = true then opC (I v) (I i) s1 else Option.bind (G_product γ (s1 27 0 0) (s1 4 (i - 1) 0)) fun x61 => some (I v, ups s1 27 0 (fun _ => x61))) else opC (I v) (I i) s1) else some (I v, s1)) fun r => L_Room_openAll_4 a r.1 (I (i + 1)) r.2 := by
        rw [L_Room_openAll_4, h20, if_neg hlt, cqual_spec k24 hqm ⟨d0, by omega⟩, Option.bind_some, jidx_P ⟨d0, by omega⟩, Option.bind_some, x13, show I i + 1 = I (i + 1) from I_add i 1, h50, gnum_q hγ, Option.bind_some, if_pos (show jin 0 7 by decide), show (0 : Int32).toNatClampNeg = 0 from rfl]
        by_cases hb1 : bt qm i = true
        · rw [if_pos hb1, if_pos hb1, if_pos (show ¬ I 1 = 0 by decide)]
          by_cases hb2 : bt em i = true
          · rw [if_pos hb2, if_pos hb2, if_neg (show ¬ I 1 = 0 by decide), htst]
            rfl
          · rw [if_neg hb2, if_neg hb2, if_pos (show I 0 = 0 from rfl)]; rfl
        · rw [if_neg hb1, if_neg hb1, if_neg (show ¬ ¬ I 0 = 0 from fun e => e rfl)]; rfl
      have eqM : L_Mod_open_4 (mm + 1) (I e) (I i) g1 = Option.bind (if bt qm i = true then (if bt (U (s 25 0 0)) i = true then opM (I e) (I i) g1 else if bt em i = true then some (jrem (I e + g1 35 (7 * (i - 1))) (I (qg γ)), g1) else opM (I e) (I i) g1) else some (I e, g1)) fun r => L_Mod_open_4 mm r.1 (I (i + 1)) r.2 := by
        have hix : 7 * I i - 7 = I (7 * (i - 1)) := by rw [I7, I_mul, I_sub (by omega)]; congr 1; omega
        rw [L_Mod_open_4, h11, if_neg hlt, k25, min_spec hqm d0 (by omega), Option.bind_some, hin26, Option.bind_some, y24, min_spec hE2 d0 (by omega), Option.bind_some, hix, if_pos (show jin (I (7 * (i - 1))) 49 by rw [I_jin (by omega)]; omega), h10, if_pos hqn, I_cl (by omega), show I i + 1 = I (i + 1) from I_add i 1]
        by_cases hb1 : bt qm i = true
        · rw [if_pos hb1, if_pos hb1, if_pos (show ¬ I 1 = 0 by decide)]
          by_cases hb3 : bt (U (s 25 0 0)) i = true
          · rw [if_pos hb3, if_pos hb3, if_pos (show ¬ I 1 = 0 by decide)]; rfl
          · rw [if_neg hb3, if_neg hb3, if_neg (show ¬ ¬ I 0 = 0 from fun e => e rfl)]
            by_cases hb2 : bt em i = true
            · rw [if_pos hb2, if_pos hb2, if_neg (show ¬ I 1 = 0 by decide)]; rfl
            · rw [if_neg hb2, if_neg hb2, if_pos (show I 0 = 0 from rfl)]
              simp only [open_same]; rfl
        · rw [if_neg hb1, if_neg hb1, if_neg (show ¬ ¬ I 0 = 0 from fun e => e rfl)]; rfl
      have wrapC : ∀ (w : Int32) (s2 : jU) (A : Option (Int32 × jU)), A = some (w, s2) → L_Room_openAll_4 (a + 1) (I v) (I i) s1 = Option.bind A (fun r => L_Room_openAll_4 a r.1 (I (i + 1)) r.2) → LRC (a + 1) (I i) (I v, s1) = LRC a (I (i + 1)) (w, s2) := fun w s2 A h1 h2 => by
        show Option.map _ (L_Room_openAll_4 (a + 1) (I v) (I i) s1) = _
        rw [h2, h1]; rfl
      have wrapM : ∀ (w : Int32) (s2 : jS) (A : Option (Int32 × jS)), A = some (w, s2) → L_Mod_open_4 (mm + 1) (I e) (I i) g1 = Option.bind A (fun r => L_Mod_open_4 mm r.1 (I (i + 1)) r.2) → LRM (mm + 1) (I i) (I e, g1) = LRM mm (I (i + 1)) (w, s2) := fun w s2 A h1 h2 => by
        show Option.map _ (L_Mod_open_4 (mm + 1) (I e) (I i) g1) = _
        rw [h2, h1]; rfl
      have hqi : ∀ h : bt qm i = true, bt dm i = true := fun h => by
        have := hqd (i - 1) (by rw [show i - 1 + 1 = i from by omega]; exact h)
        rwa [show i - 1 + 1 = i from by omega] at this
      by_cases hb1 : bt qm i = true
      · rw [if_pos hb1] at eqC eqM
        have doop : L_Room_openAll_4 (a + 1) (I v) (I i) s1 = Option.bind (opC (I v) (I i) s1) (fun r => L_Room_openAll_4 a r.1 (I (i + 1)) r.2) → L_Mod_open_4 (mm + 1) (I e) (I i) g1 = Option.bind (opM (I e) (I i) g1) (fun r => L_Mod_open_4 mm r.1 (I (i + 1)) r.2) → ∃ zc' zm', (1 ≤ i + 1 ∧ ∃ v e ec, (v = 0 ∨ v = 1) ∧ zc'.1 = I v ∧ zm'.1 = I e ∧ zm'.2 17 0 = I v ∧ e < qg γ ∧ ec < qg γ ∧ zc'.2 27 0 0 = el γ ec ∧ (v = 0 → ec = e) ∧ rOp zc'.2 zm'.2 ∧ FrC [26, 27, 34, 35, 37, 40, 41, 52] s zc'.2 ∧ FrM [17, 27, 38, 40, 41] g zm'.2 ∧ ∃ b', rBo zc'.2 zm'.2 b' ∧ b' ≤ b + 49 * (i + 1 - 1)) ∧ LRC (a + 1) (I i) (I v, s1) = LRC a (I (i + 1)) zc' ∧ LRM (mm + 1) (I i) (I e, g1) = LRM mm (I (i + 1)) zm' := fun h1 h2 => by
          obtain ⟨s2, g2, v', e', ec', b2, r1, r2, r3, r4, r5, r6, r7, r8, r9, r10, r11, r12, r13⟩ := op_spec hC1 ⟨d0, show i ≤ n by omega⟩ d12 (by omega) hD1 (hqi hb1) d1 d4 d5 d6 d7 d8 d9
          exact ⟨(I v', s2), (I e', g2), ⟨by omega, v', e', ec', r3, rfl, rfl, r4, r5, r6, r7, r8, r9, d10.tr r12 (fun _ h => h) (fun _ h => h), d11.tr r13 (fun _ h => h) (fun _ h => h), b2, r10, by omega⟩, wrapC _ _ _ r1 h1, wrapM _ _ _ r2 h2⟩
        by_cases hb2 : bt em i = true
        · rw [if_pos hb2] at eqC eqM
          by_cases hb3 : bt (U (s 25 0 0)) i = true
          · rw [if_pos hb3] at eqC eqM
            exact doop eqC eqM
          · rw [if_neg hb3] at eqC eqM
            obtain ⟨E1, E2⟩ := (hE4 (i - 1) (by omega) 0 (by omega)).1 (by rw [show i - 1 + 1 = i from by omega]; exact hb2) (by omega)
            have E3 := E2.2
            have x4 : s1 4 (i - 1) 0 = el γ (U (g 35 (7 * (i - 1)))) := by rw [d10 4 (by decide)]; exact E1
            have y35 : g1 35 (7 * (i - 1)) = I (U (g 35 (7 * (i - 1)))) := by rw [d11 35 (by decide)]; exact E2.1
            have E3' : U (g 35 (7 * (i - 1))) < qg γ := E3
            refine ⟨(I v, ups s1 27 0 (fun _ => el γ ((ec + U (g 35 (7 * (i - 1)))) % qg γ))), (I ((e + U (g 35 (7 * (i - 1)))) % qg γ), g1), ⟨by omega, v, _, _, d1, rfl, rfl, d4, Nat.mod_lt _ (by omega), Nat.mod_lt _ (by omega), rfl, fun h => by rw [d8 h], d9, d10.tr (FrC.up (l := [27]) (by simp)) (fun _ h => h) (by decide), d11, b1, d12, by omega⟩, ?_, ?_⟩
            · refine wrapC _ _ _ ?_ eqC
              rw [d7, x4, el_mul hγ d6 E3', Option.bind_some]
            · refine wrapM _ _ _ ?_ eqM
              rw [y35, I_add, I_rem (by omega) (by omega)]
        · rw [if_neg hb2] at eqC eqM
          refine doop eqC ?_
          rw [eqM]
          split <;> rfl
      · rw [if_neg hb1] at eqC eqM
        exact ⟨(I v, s1), (I e, g1), ⟨by omega, v, e, _, d1, rfl, rfl, d4, d5, d6, d7, d8, d9, d10, d11, b1, d12, by omega⟩, wrapC _ _ _ rfl eqC, wrapM _ _ _ rfl eqM⟩)
    (fun a mm zc zm hP => by
      obtain ⟨d0, v, e, ec, d1, d2, d3, d4, d5, d6, d7, d8, d9, d10, d11, b1, d12, d13⟩ := hP
      obtain ⟨-, ⟨h20, h11, -⟩, -⟩ := hC.fr d10 d11 (by decide) (by decide)
      have hlt : I n < I (n + 1) := by rw [I_lt (by omega) (by omega)]; omega
      refine ⟨?_, ?_⟩
      · unfold LRC
        rw [L_Room_openAll_4, h20, if_pos hlt]; rfl
      · unfold LRM
        rw [L_Mod_open_4, h11, if_pos hlt]; rfl) n 1 jF jF (I 0, s) (I 0, g) (by omega) (by unfold jF; omega) (by unfold jF; omega) ⟨by omega, 0, 0, 0, Or.inl rfl, rfl, rfl, h17, by omega, by omega, h27, fun _ => rfl, hO, FrC.rf, FrM.rf, b, hB, by omega⟩
  obtain ⟨xc, s1⟩ := zc
  obtain ⟨xm, g1⟩ := zm
  simp only at c2 c3 c4 c7 c9 c10 c11 c12
  subst c2
  subst c3
  have eC : ∃ y, L_Room_openAll_4 jF 0 1 s = some (I v, y, s1) := by
    have e3 : Option.map (fun r : Int32 × Int32 × jU => (r.2.1, (r.1, r.2.2))) (L_Room_openAll_4 jF 0 1 s) = some (I (n + 1), (I v, s1)) := e1
    cases hL : L_Room_openAll_4 jF 0 1 s with
    | none => rw [hL] at e3; cases e3
    | some r =>
      rw [hL] at e3
      obtain ⟨r1, r2, r3⟩ := r
      simp at e3
      obtain ⟨q1, q2, q3⟩ := e3
      exact ⟨r2, by rw [q2, q3]⟩
  have eM : ∃ y, L_Mod_open_4 jF 0 1 g = some (I e, y, g1) := by
    have e3 : Option.map (fun r : Int32 × Int32 × jS => (r.2.1, (r.1, r.2.2))) (L_Mod_open_4 jF 0 1 g) = some (I (n + 1), (I e, g1)) := e2
    cases hL : L_Mod_open_4 jF 0 1 g with
    | none => rw [hL] at e3; cases e3
    | some r =>
      rw [hL] at e3
      obtain ⟨r1, r2, r3⟩ := r
      simp at e3
      obtain ⟨q1, q2, q3⟩ := e3
      exact ⟨r2, by rw [q2, q3]⟩
  obtain ⟨y1, eC⟩ := eC
  obtain ⟨y2, eM⟩ := eM
  refine ⟨ups s1 22 0 (fun _ => I (2 + v)), va_up (va_up g1 39 (fun _ => I e)) 16 (fun _ => I (1 - v)), b', v, e, ?_, ?_, c1, rfl, rfl, c4, rfl, c5, fun h => by rw [← c8 h]; exact c7, c9, c12, ?_, ?_⟩
  · unfold f_Room_openAll
    rw [eC, Option.bind_some]
    rcases c1 with rfl | rfl
    · rfl
    · rfl
  · unfold f_Mod_open
    rw [eM, Option.bind_some]
    simp only [jlet]
    rw [show va_up g1 39 (fun _ => I e) 17 0 = I v from c4]
    rcases c1 with rfl | rfl
    · rfl
    · rfl
  · exact c10.tr (FrC.up (l := [22]) (by simp)) (by decide) (by decide)
  · exact (c11.tr (FrM.up (l := [39]) (by simp)) (by decide) (by decide) (l := [16, 17, 27, 38, 39, 40, 41])).tr (FrM.up (l := [16]) (by simp)) (fun _ h => h) (by decide)

/-! ===== next ===== -/
theorem rSc_fr {s s' : jU} {g g' : jS} {st r γ n t n0 t0 : Nat} {l m : List Nat} (h : rSc s g st r γ n t n0 t0) (a : FrC l s s') (b : FrM m g g') (hl : ∀ K ∈ [22, 23, 50, 53, 20, 21, 0], K ∉ l) (hm : ∀ K ∈ [15, 16, 17, 18, 9, 10, 11, 12, 13, 14], K ∉ m) : rSc s' g' st r γ n t n0 t0 := by
  unfold rSc rCz at *
  rw [a 22 (hl 22 (by simp)), a 23 (hl 23 (by simp)), a 50 (hl 50 (by simp)), a 53 (hl 53 (by simp)), a 20 (hl 20 (by simp)), a 21 (hl 21 (by simp)), a 0 (hl 0 (by simp)), b 15 (hm 15 (by simp)), b 16 (hm 16 (by simp)), b 17 (hm 17 (by simp)), b 18 (hm 18 (by simp)), b 9 (hm 9 (by simp)), b 10 (hm 10 (by simp)), b 11 (hm 11 (by simp)), b 12 (hm 12 (by simp)), b 13 (hm 13 (by simp)), b 14 (hm 14 (by simp))]
  exact h
theorem rCo_fr {s s' : jU} {g g' : jS} {γ : Nat} {l m : List Nat} (h : rCo s g γ) (a : FrC l s s') (b : FrM m g g') (hl : ∀ K ∈ [0, 1], K ∉ l) (hm : ∀ K ∈ [19, 20], K ∉ m) : rCo s' g' γ := by
  unfold rCo at *
  rw [a 0 (hl 0 (by simp)), a 1 (hl 1 (by simp)), b 19 (hm 19 (by simp)), b 20 (hm 20 (by simp))]
  exact h
theorem rFa_fr {s s' : jU} {g g' : jS} {l m : List Nat} (h : rFa s g ) (a : FrC l s s') (b : FrM m g g') (hl : ∀ K ∈ [2], K ∉ l) (hm : ∀ K ∈ [21], K ∉ m) : rFa s' g'  := by
  unfold rFa at *
  rw [a 2 (hl 2 (by simp)), b 21 (hm 21 (by simp))]
  exact h
theorem rCr_fr {s s' : jU} {g g' : jS} {l m : List Nat} (h : rCr s g ) (a : FrC l s s') (b : FrM m g g') (hl : ∀ K ∈ [10], K ∉ l) (hm : ∀ K ∈ [22], K ∉ m) : rCr s' g'  := by
  unfold rCr at *
  rw [a 10 (hl 10 (by simp)), b 22 (hm 22 (by simp))]
  exact h
theorem rCm_fr {s s' : jU} {g g' : jS} {γ : Nat} {l m : List Nat} (h : rCm s g γ) (a : FrC l s s') (b : FrM m g g') (hl : ∀ K ∈ [11, 7, 8], K ∉ l) (hm : ∀ K ∈ [28, 29, 32, 33], K ∉ m) : rCm s' g' γ := by
  unfold rCm at *
  rw [a 11 (hl 11 (by simp)), a 7 (hl 7 (by simp)), a 8 (hl 8 (by simp)), b 28 (hm 28 (by simp)), b 29 (hm 29 (by simp)), b 32 (hm 32 (by simp)), b 33 (hm 33 (by simp))]
  exact h
theorem rSh_fr {s s' : jU} {g g' : jS} {st r γ n : Nat} {l m : List Nat} (h : rSh s g st r γ n) (a : FrC l s s') (b : FrM m g g') (hl : ∀ K ∈ [9], K ∉ l) (hm : ∀ K ∈ [36, 37], K ∉ m) : rSh s' g' st r γ n := by
  unfold rSh at *
  rw [a 9 (hl 9 (by simp)), b 36 (hm 36 (by simp)), b 37 (hm 37 (by simp))]
  exact h
theorem rMa_fr {s s' : jU} {g g' : jS} {r : Nat} {l m : List Nat} (h : rMa s g r) (a : FrC l s s') (b : FrM m g g') (hl : ∀ K ∈ [24, 25, 26], K ∉ l) (hm : ∀ K ∈ [25, 26, 27], K ∉ m) : rMa s' g' r := by
  unfold rMa at *
  rw [a 24 (hl 24 (by simp)), a 25 (hl 25 (by simp)), a 26 (hl 26 (by simp)), b 25 (hm 25 (by simp)), b 26 (hm 26 (by simp)), b 27 (hm 27 (by simp))]
  exact h
theorem rKe_fr {s s' : jU} {g g' : jS} {st γ : Nat} {l m : List Nat} (h : rKe s g st γ) (a : FrC l s s') (b : FrM m g g') (hl : ∀ K ∈ [27], K ∉ l) (hm : ∀ K ∈ [39], K ∉ m) : rKe s' g' st γ := by
  unfold rKe at *
  rw [a 27 (hl 27 (by simp)), b 39 (hm 39 (by simp))]
  exact h
theorem rBo_fr {s s' : jU} {g g' : jS} {c : Nat} {l m : List Nat} (h : rBo s g c) (a : FrC l s s') (b : FrM m g g') (hl : ∀ K ∈ [41, 40], K ∉ l) (hm : ∀ K ∈ [40, 41], K ∉ m) : rBo s' g' c := by
  unfold rBo at *
  rw [a 41 (hl 41 (by simp)), a 40 (hl 40 (by simp)), b 40 (hm 40 (by simp)), b 41 (hm 41 (by simp))]
  exact h
theorem RelP_fr {s s' : jU} {g g' : jS} {l m : List Nat} (h : RelP s g ) (a : FrC l s s') (b : FrM m g g') (hl : ∀ K ∈ [51, 33, 30, 31], K ∉ l) (hm : ∀ K ∈ [1, 2, 3, 4], K ∉ m) : RelP s' g'  := by
  unfold RelP at *
  rw [a 51 (hl 51 (by simp)), a 33 (hl 33 (by simp)), a 30 (hl 30 (by simp)), a 31 (hl 31 (by simp)), b 1 (hm 1 (by simp)), b 2 (hm 2 (by simp)), b 3 (hm 3 (by simp)), b 4 (hm 4 (by simp))]
  exact h
theorem RelT_fr {g g' : jS} {m : List Nat} (h : RelT g) (b : FrM m g g') (hm : ∀ K ∈ [6, 7, 8, 42, 43, 45], K ∉ m) : RelT g' := by
  unfold RelT at *
  rw [b 6 (hm 6 (by simp)), b 7 (hm 7 (by simp)), b 8 (hm 8 (by simp)), b 42 (hm 42 (by simp)), b 43 (hm 43 (by simp)), b 45 (hm 45 (by simp))]
  exact h
theorem rDe_fr {s s' : jU} {g g' : jS} {γ n t dm : Nat} {l m : List Nat} (h : rDe s g γ n t dm) (a : FrC l s s') (b : FrM m g g') (hl : ∀ K ∈ [3, 5, 6, 12], K ∉ l) (hm : ∀ K ∈ [23, 30, 31, 34], K ∉ m) : rDe s' g' γ n t dm := by
  unfold rDe rEl rNu at *
  rw [a 3 (hl 3 (by simp)), a 5 (hl 5 (by simp)), a 6 (hl 6 (by simp)), a 12 (hl 12 (by simp)), b 23 (hm 23 (by simp)), b 30 (hm 30 (by simp)), b 31 (hm 31 (by simp)), b 34 (hm 34 (by simp))]
  exact h
theorem rEx_fr {s s' : jU} {g g' : jS} {γ t em : Nat} {l m : List Nat} (h : rEx s g γ t em) (a : FrC l s s') (b : FrM m g g') (hl : ∀ K ∈ [4, 13], K ∉ l) (hm : ∀ K ∈ [24, 35], K ∉ m) : rEx s' g' γ t em := by
  unfold rEx rEl at *
  rw [a 4 (hl 4 (by simp)), a 13 (hl 13 (by simp)), b 24 (hm 24 (by simp)), b 35 (hm 35 (by simp))]
  exact h
theorem rCm_mk {s : jU} {g : jS} {γ n : Nat} (h1 : rCb s g n) (h2 : rAn s g γ) : rCm s g γ := fun i hi => ⟨⟨(h1 i hi).1, (h1 i hi).2.1, (h2 i hi).1⟩, (h2 i hi).2⟩
theorem rCm_an {s : jU} {g : jS} {γ : Nat} (h : rCm s g γ) : rAn s g γ := fun i hi => ⟨(h i hi).1.2.2, (h i hi).2⟩
theorem rCz_fr {s s' : jU} {t : Nat} {l : List Nat} (h : rCz s t) (a : FrC l s s') (hl : 0 ∉ l) : rCz s' t := by
  unfold rCz at *
  rw [a 0 hl]; exact h
/-- a room in stage 1 as the rounds take it -/
def Rn (s : jU) (g : jS) (r γ n t dm em b : Nat) : Prop := RelP s g ∧ Cx s g γ n t ∧ (s 22 0 0 = I 1 ∧ g 15 0 = I 1 ∧ g 16 0 = I 0 ∧ g 17 0 = I 0 ∧ s 23 0 0 = I r ∧ g 18 0 = I r ∧ g 13 0 = I n ∧ g 14 0 = I t ∧ rCz s t) ∧ rDe s g γ n t dm ∧ rEx s g γ t em ∧ rCm s g γ ∧ rMa s g r ∧ s 27 0 0 = el γ 0 ∧ rBo s g b ∧ (∀ i < n, (4 ≤ r → (g 36 i = s 9 i 0 ∧ OK (qg γ) (s 9 i 0)) ∧ (g 37 i = s 9 i 1 ∧ OK (qg γ) (s 9 i 1))) ∧ (¬ 4 ≤ r → s 9 i 0 = -1 ∧ s 9 i 1 = -1)) ∧ rCb s g n ∧ (∀ i < 7, bt dm (i + 1) = false → s 11 i 0 = I 0) ∧ rSb s g
/-- .. and what belongs to its round -/
def Rr (s : jU) (g : jS) (r γ n t dm em b : Nat) : Prop := (r = 0 → dm = 0 ∧ b = 0) ∧ (r < 5 → em = 0) ∧ (r < 2 → ∀ i < 7, s 11 i 0 = I 0) ∧ (r < 3 → ∀ i < 7, g 29 i = I 0) ∧ (r = 1 → b ≤ 112 ∧ rFi s g γ n t dm) ∧ (r = 2 → ctot s ≤ 14 ∧ b ≤ 112 + 3 * ctot s) ∧ ((r = 3 ∨ r = 4) → b ≤ 252) ∧ (r = 5 → b ≤ 364) ∧ (r = 6 → b ≤ 707) ∧ (4 ≤ r → ∀ i < 7, bt (U (s 24 0 0)) (i + 1) = true → bt dm (i + 1) = true)
theorem Rn_of {s : jU} {g : jS} {r γ n t n0 t0 dm em b : Nat} (hP : RelP s g) (hT : RelT g) (h : RelR s g 1 r γ n t n0 t0 dm em b) : Rn s g r γ n t dm em b ∧ Rr s g r γ n t dm em b ∧ r ≤ 6 := by
  obtain ⟨hS, hCo, hFa, hCr, hDe, hEx, hCm, hSh, hMa, hKe, hBo, hRo⟩ := h
  obtain ⟨r1, -, -, r4⟩ := hRo
  obtain ⟨hr6, rfl, rfl⟩ := r1 rfl
  obtain ⟨q1, q2, q3, q4, q5, q6, q7, q8, q9, q10, q11, q12⟩ := r4 rfl
  obtain ⟨⟨a1, a2, a3, a4, -, -⟩, ⟨b1, b2, -⟩, hc, hd, ⟨e1, e2, -, -, ez⟩⟩ := hS
  refine ⟨⟨hP, ⟨hc, hd, hT, hCo, hFa, hCr⟩, ⟨a1, a2, a3, a4, b1, b2, e1, e2, ez⟩, hDe, hEx, hCm, hMa, hKe.2 rfl, hBo, fun i hi => ?_, fun i hi => ⟨(hCm i hi).1.1, (hCm i hi).1.2.1, (q5 i hi).1⟩, fun i hi => (q5 i hi).2, q6⟩, ⟨q1, q2, q3, q4, q7, q8, q9, q10, q11, q12⟩, hr6⟩
  obtain ⟨s1, s2⟩ := hSh i hi
  exact ⟨fun h => s1 ⟨h, by omega⟩, fun h => s2 (fun h' => h h'.1)⟩
theorem Rn_to {s : jU} {g : jS} {r γ n t dm em b : Nat} (h : Rn s g r γ n t dm em b) (k : Rr s g r γ n t dm em b) (hr : r ≤ 6) : Rel s g := by
  obtain ⟨hP, ⟨hc, hd, hT, hCo, hFa, hCr⟩, ⟨a1, a2, a3, a4, b1, b2, e1, e2⟩, hDe, hEx, hCm, hMa, hKe, hBo, hSh, hcb, hcd, hsb⟩ := h
  obtain ⟨q1, q2, q3, q4, q7, q8, q9, q10, q11, q12⟩ := k
  refine ⟨hP, hT, Or.inr ⟨1, r, γ, n, t, n, t, dm, em, b, ⟨⟨a1, a2, a3, a4, by omega, by omega⟩, ⟨b1, b2, by omega⟩, hc, hd, ⟨e1, e2.1, by omega, by omega, e2.2⟩⟩, hCo, hFa, hCr, hDe, hEx, hCm, fun i hi => ?_, hMa, ⟨fun e => by omega, fun _ => hKe⟩, hBo, ⟨fun _ => ⟨hr, rfl, rfl⟩, fun e => by omega, fun e => by omega, fun _ => ⟨q1, q2, q3, q4, fun i hi => ⟨(hcb i hi).2.2, hcd i hi⟩, hsb, q7, q8, q9, q10, q11, q12⟩⟩⟩⟩
  obtain ⟨s1, s2⟩ := hSh i hi
  exact ⟨fun h => s1 h.1, fun h => s2 (fun h' => h ⟨h', by omega⟩)⟩
/-- the round is told, nothing else -/
theorem Rn_up {s : jU} {g : jS} {r γ n t dm em b : Nat} (h : Rn s g r γ n t dm em b) (hr : r ≤ 6) (hsh : r ≠ 3) (h5 : r ≠ 5 ∧ r ≠ 6) : Rn (ups s 23 0 (fun _ => I (r + 1))) (va_up (va_up g 0 (fun _ => 0)) 18 (fun _ => I (r + 1))) (r + 1) γ n t dm em b := by
  obtain ⟨hP, hCx, ⟨a1, a2, a3, a4, b1, b2, e1, e2⟩, hDe, hEx, hCm, hMa, hKe, hBo, hSh, hcb, hcd, hsb⟩ := h
  refine ⟨hP, hCx, ⟨a1, a2, a3, a4, rfl, rfl, e1, e2⟩, hDe, hEx, hCm, ⟨⟨hMa.1.1, hMa.1.2.1, fun e => hMa.1.2.2 (by omega)⟩, ⟨hMa.2.1.1, hMa.2.1.2.1, fun e => hMa.2.1.2.2 (by omega)⟩, ⟨hMa.2.2.1, hMa.2.2.2.1, fun e => hMa.2.2.2.2 (by omega)⟩⟩, hKe, hBo, fun i hi => ?_, hcb, hcd, hsb⟩
  obtain ⟨s1, s2⟩ := hSh i hi
  exact ⟨fun h => s1 (by omega), fun h => s2 (by omega)⟩
theorem thr_fr {g g' : jS} {m : List Nat} (b : FrM m g g') (h : 0 ∉ m) (h0 : g 0 0 = 0) : f_Mod_thrown g' = some 0 := by
  unfold f_Mod_thrown; rw [b 0 h, h0]
def sA (s : jU) (r : Nat) : jU := ups s 23 0 (fun _ => I (r + 1))
def gA (g : jS) (r : Nat) : jS := va_up (va_up g 0 (fun _ => 0)) 18 (fun _ => I (r + 1))
theorem rd1 {s : jU} {g : jS} {γ n t dm em b : Nat} (h : Rn s g 0 γ n t dm em b) (k : Rr s g 0 γ n t dm em b) : ∃ s' g', f_Room_dealAll (sA s 0) = some s' ∧ f_Mod_deal (gA g 0) = some g' ∧ f_Mod_thrown g' = some 0 ∧ s' 23 0 0 = I 1 ∧ g' 18 0 = I 1 ∧ Rel s' g' := by
  have hU := Rn_up h (by omega) (by omega) (by omega)
  obtain ⟨rfl, rfl⟩ := k.1 rfl
  obtain ⟨hP, hCx, ⟨a1, a2, a3, a4, b1, b2, e1, e2⟩, hDe, hEx, hCm, hMa, hKe, hBo, hSh, hcb, hcd, hsb⟩ := hU
  obtain ⟨s', g', dm, b, c1, c2, c3, c4, c5, c6, c7, c8⟩ := round1 hCx hBo hDe
  obtain ⟨-, q2, q3, q4, -, -, -, -, -, -⟩ := k
  refine ⟨s', g', c1, c2, thr_fr c8 (by decide) rfl, by rw [c7 23 (by decide)]; exact b1, by rw [c8 18 (by decide)]; exact b2, Rn_to (r := 1) (dm := dm) (em := em) (b := b) ⟨RelP_fr hP c7 c8 (by decide) (by decide), hCx.fr c7 c8 (by decide) (by decide), ⟨by rw [c7 22 (by decide)]; exact a1, by rw [c8 15 (by decide)]; exact a2, by rw [c8 16 (by decide)]; exact a3, by rw [c8 17 (by decide)]; exact a4, by rw [c7 23 (by decide)]; exact b1, by rw [c8 18 (by decide)]; exact b2, by rw [c8 13 (by decide)]; exact e1, by rw [c8 14 (by decide)]; exact e2.1, rCz_fr e2.2 c7 (by decide)⟩, c5, rEx_fr hEx c7 c8 (by decide) (by decide), rCm_fr hCm c7 c8 (by decide) (by decide), rMa_fr hMa c7 c8 (by decide) (by decide), by rw [c7 27 (by decide)]; exact hKe, c3, ?_, ?_, ?_, ?_⟩ ⟨fun e => by omega, fun _ => q2 (by omega), ?_, ?_, fun _ => ⟨c4, c6⟩, fun e => by omega, fun e => by omega, fun e => by omega, fun e => by omega, fun e => by omega⟩ (by omega)⟩
  · intro i hi
    rw [c7 9 (by decide), c8 36 (by decide), c8 37 (by decide)]; exact hSh i hi
  · unfold rCb at *
    rw [c7 11 (by decide), c8 28 (by decide)]; exact hcb
  · intro i hi _
    rw [c7 11 (by decide)]; exact q3 (by omega) i hi
  · unfold rSb at *
    rw [c7 11 (by decide), c8 29 (by decide)]; exact hsb
  · intro _ i hi
    rw [c7 11 (by decide)]; exact q3 (by omega) i hi
  · intro _ i hi
    rw [c8 29 (by decide)]; exact q4 (by omega) i hi
theorem rd2 {s : jU} {g : jS} {γ n t dm em b : Nat} (h : Rn s g 1 γ n t dm em b) (k : Rr s g 1 γ n t dm em b) : ∃ s' g', f_Room_complainAll (sA s 1) = some s' ∧ f_Mod_complain (gA g 1) = some g' ∧ f_Mod_thrown g' = some 0 ∧ s' 23 0 0 = I 2 ∧ g' 18 0 = I 2 ∧ Rel s' g' := by
  have hU := Rn_up h (by omega) (by omega) (by omega)
  obtain ⟨hP, hCx, ⟨a1, a2, a3, a4, b1, b2, e1, e2⟩, hDe, hEx, hCm, hMa, hKe, hBo, hSh, hcb, hcd, hsb⟩ := hU
  obtain ⟨-, q2, q3, q4, q5, -, -, -, -, -⟩ := k
  obtain ⟨p1, p2⟩ := q5 rfl
  obtain ⟨s', g', b', c1, c2, c3, c4, c5, c6, c9, c7, c8⟩ := round2 hCx hBo p1 hDe p2 hcb (q3 (by omega))
  have hAn : rAn s' g' γ := by
    have := rCm_an hCm
    unfold rAn at *
    rw [c7 7 (by decide), c7 8 (by decide), c8 29 (by decide), c8 32 (by decide), c8 33 (by decide)]; exact this
  have h29 : ∀ i < 7, g' 29 i = I 0 := fun i hi => by rw [c8 29 (by decide)]; exact q4 (by omega) i hi
  refine ⟨s', g', c1, c2, thr_fr c8 (by decide) rfl, by rw [c7 23 (by decide)]; exact b1, by rw [c8 18 (by decide)]; exact b2, Rn_to (r := 2) (dm := dm) (em := em) (b := b') ⟨RelP_fr hP c7 c8 (by decide) (by decide), hCx.fr c7 c8 (by decide) (by decide), ⟨by rw [c7 22 (by decide)]; exact a1, by rw [c8 15 (by decide)]; exact a2, by rw [c8 16 (by decide)]; exact a3, by rw [c8 17 (by decide)]; exact a4, by rw [c7 23 (by decide)]; exact b1, by rw [c8 18 (by decide)]; exact b2, by rw [c8 13 (by decide)]; exact e1, by rw [c8 14 (by decide)]; exact e2.1, rCz_fr e2.2 c7 (by decide)⟩, rDe_fr hDe c7 c8 (by decide) (by decide), rEx_fr hEx c7 c8 (by decide) (by decide), rCm_mk c6 hAn, rMa_fr hMa c7 c8 (by decide) (by decide), by rw [c7 27 (by decide)]; exact hKe, c3, ?_, c6, ?_, ?_⟩ ⟨fun e => by omega, fun _ => q2 (by omega), fun e => by omega, fun _ => h29, fun e => by omega, fun _ => ⟨c5, c4⟩, fun e => by omega, fun e => by omega, fun e => by omega, fun e => by omega⟩ (by omega)⟩
  · intro i hi
    rw [c7 9 (by decide), c8 36 (by decide), c8 37 (by decide)]; exact hSh i hi
  · intro i hi e
    rw [c9 i e]; exact hcd i hi e
  · intro i hi c hc e
    rw [h29 i hi, U_I (by omega)] at e; exact (bt0f e).elim
theorem rd3 {s : jU} {g : jS} {γ n t dm em b : Nat} (h : Rn s g 2 γ n t dm em b) (k : Rr s g 2 γ n t dm em b) : ∃ s' g', f_Room_answerAll (sA s 2) = some s' ∧ f_Mod_answer (gA g 2) = some g' ∧ f_Mod_thrown g' = some 0 ∧ s' 23 0 0 = I 3 ∧ g' 18 0 = I 3 ∧ Rel s' g' := by
  have hU := Rn_up h (by omega) (by omega) (by omega)
  obtain ⟨hP, hCx, ⟨a1, a2, a3, a4, b1, b2, e1, e2⟩, hDe, hEx, hCm, hMa, hKe, hBo, hSh, hcb, hcd, hsb⟩ := hU
  obtain ⟨-, q2, q3, q4, q5, q6, -, -, -, -⟩ := k
  obtain ⟨p1, p2⟩ := q6 rfl
  obtain ⟨s', g', b', c1, c2, c3, c4, c5, c6, c7, c8⟩ := round3 hCx hBo (show ctot (sA s 2) ≤ 14 from p1) (show b ≤ 112 + 3 * ctot (sA s 2) from p2) (rCm_an hCm) hcb hsb
  have hcb' : rCb s' g' n := by
    unfold rCb at *
    rw [c7 11 (by decide), c8 28 (by decide)]; exact hcb
  refine ⟨s', g', c1, c2, thr_fr c8 (by decide) rfl, by rw [c7 23 (by decide)]; exact b1, by rw [c8 18 (by decide)]; exact b2, Rn_to (r := 3) (dm := dm) (em := em) (b := b') ⟨RelP_fr hP c7 c8 (by decide) (by decide), hCx.fr c7 c8 (by decide) (by decide), ⟨by rw [c7 22 (by decide)]; exact a1, by rw [c8 15 (by decide)]; exact a2, by rw [c8 16 (by decide)]; exact a3, by rw [c8 17 (by decide)]; exact a4, by rw [c7 23 (by decide)]; exact b1, by rw [c8 18 (by decide)]; exact b2, by rw [c8 13 (by decide)]; exact e1, by rw [c8 14 (by decide)]; exact e2.1, rCz_fr e2.2 c7 (by decide)⟩, rDe_fr hDe c7 c8 (by decide) (by decide), rEx_fr hEx c7 c8 (by decide) (by decide), rCm_mk hcb' c5, rMa_fr hMa c7 c8 (by decide) (by decide), by rw [c7 27 (by decide)]; exact hKe, c3, ?_, hcb', ?_, c6⟩ ⟨fun e => by omega, fun _ => q2 (by omega), fun e => by omega, fun e => by omega, fun e => by omega, fun e => by omega, fun _ => c4, fun e => by omega, fun e => by omega, fun e => by omega⟩ (by omega)⟩
  · intro i hi
    rw [c7 9 (by decide), c8 36 (by decide), c8 37 (by decide)]; exact hSh i hi
  · intro i hi e
    rw [c7 11 (by decide)]; exact hcd i hi e
theorem rd4 {s : jU} {g : jS} {γ n t dm em b : Nat} (h : Rn s g 3 γ n t dm em b) (k : Rr s g 3 γ n t dm em b) : ∃ s' g', f_Room_judgeAll (sA s 3) = some s' ∧ f_Mod_judge (gA g 3) = some g' ∧ f_Mod_thrown g' = some 0 ∧ s' 23 0 0 = I 4 ∧ g' 18 0 = I 4 ∧ Rel s' g' := by
  obtain ⟨hP, hCx, ⟨a1, a2, a3, a4, b1, b2, e1, e2⟩, hDe, hEx, hCm, hMa, hKe, hBo, hSh, hcb, hcd, hsb⟩ := h
  obtain ⟨-, q2, -, -, -, -, q7, -, -, -⟩ := k
  have z24 : s 24 0 0 = I 0 := hMa.1.2.2 (by omega)
  obtain ⟨s', g', qm, c1, c2, c7, c8, c3, c4, c5, c6, c9, c10, c11⟩ := round4 (s := sA s 3) (g := gA g 3) hCx hDe hcb hcd (rCm_an hCm) hsb z24 (by show g 25 0 = _; rw [hMa.1.1]; exact z24)
  have t0 := thr_fr c8 (by decide) rfl
  have k23 : s' 23 0 0 = I 4 := by rw [c7 23 (by decide)]; rfl
  have k18 : g' 18 0 = I 4 := by rw [c8 18 (by decide)]; rfl
  have hP' := RelP_fr (s := sA s 3) (g := gA g 3) hP c7 c8 (by decide) (by decide)
  have hC' := Cx.fr (s := sA s 3) (g := gA g 3) hCx c7 c8 (by decide) (by decide)
  have hD' : rDe s' g' γ n t dm := by
    refine ⟨by rw [c8 23 (by decide)]; exact hDe.1, ?_, c3, c4⟩
    unfold rEl
    rw [c7 3 (by decide), c7 12 (by decide), c8 34 (by decide)]; exact hDe.2.1
  have hE' := rEx_fr (s := sA s 3) (g := gA g 3) hEx c7 c8 (by decide) (by decide)
  have hCm' := rCm_fr (s := sA s 3) (g := gA g 3) hCm c7 c8 (by decide) (by decide)
  have hBo' := rBo_fr (s := sA s 3) (g := gA g 3) hBo c7 c8 (by decide) (by decide)
  have hMa' : rMa s' g' 4 := by
    refine ⟨⟨by rw [c6, c9], by rw [c6]; exact OK_I c5 (by omega), fun e => by omega⟩, ?_, ?_⟩
    · rw [c7 25 (by decide), c8 26 (by decide)]; exact ⟨hMa.2.1.1, hMa.2.1.2.1, fun _ => hMa.2.1.2.2 (by omega)⟩
    · rw [c7 26 (by decide), c8 27 (by decide)]; exact ⟨hMa.2.2.1, hMa.2.2.2.1, fun _ => hMa.2.2.2.2 (by omega)⟩
  have k15 : g' 15 0 = I 1 := by rw [c8 15 (by decide)]; exact a2
  have k16 : g' 16 0 = I 0 := by rw [c8 16 (by decide)]; exact a3
  have k13 : g' 13 0 = I n := by rw [c8 13 (by decide)]; exact e1
  have k14 : g' 14 0 = I t := by rw [c8 14 (by decide)]; exact e2.1
  have kz : rCz s' t := rCz_fr (s := sA s 3) e2.2 c7 (by decide)
  have k27 : s' 27 0 0 = el γ 0 := by rw [c7 27 (by decide)]; exact hKe
  refine ⟨s', g', c1, c2, t0, k23, k18, ?_⟩
  rcases c11 with ⟨x1, x2, x3⟩ | ⟨x1, x2, x3⟩
  · obtain ⟨hc, hd, hT, hCo, hFa, hCr⟩ := hC'
    refine ⟨hP', hT, Or.inr ⟨3, 4, γ, n, t, n, t, dm, em, b, ⟨⟨x1, k15, k16, x2, by omega, by omega⟩, ⟨k23, k18, by omega⟩, hc, hd, ⟨k13, k14, by omega, by omega, kz⟩⟩, hCo, hFa, hCr, hD', hE', hCm', fun i hi => ?_, hMa', ⟨fun e => by omega, fun e => by omega⟩, hBo', ⟨fun e => by omega, fun e => by omega, fun _ => Or.inl rfl, fun e => by omega⟩⟩⟩
    rw [x3]
    exact ⟨fun e => by omega, fun _ => (hSh i hi).2 (by omega)⟩
  · refine Rn_to (r := 4) (dm := dm) (em := em) (b := b) ⟨hP', hC', ⟨by rw [x1]; exact a1, k15, k16, x2, k23, k18, k13, k14, kz⟩, hD', hE', hCm', hMa', k27, hBo', fun i hi => ⟨fun _ => x3 i hi, fun e => by omega⟩, ?_, ?_, ?_⟩ ⟨fun e => by omega, fun _ => q2 (by omega), fun e => by omega, fun e => by omega, fun e => by omega, fun e => by omega, fun _ => q7 (Or.inl rfl), fun e => by omega, fun e => by omega, fun _ i hi e => ?_⟩ (by omega)
    · unfold rCb at *
      rw [c7 11 (by decide), c8 28 (by decide)]; exact hcb
    · intro i hi e
      rw [c7 11 (by decide)]; exact hcd i hi e
    · unfold rSb at *
      rw [c7 11 (by decide), c8 29 (by decide)]; exact hsb
    · rw [c6, U_I (by omega)] at e; exact c10 i e

theorem bt_big {m i : Nat} (hm : m < 128) (h : bt m (i + 1) = true) : i < 7 := by
  false_or_by_contra
  unfold bt at h
  rw [show i + 1 - 1 = i from by omega, Nat.testBit_lt_two_pow (Nat.lt_of_lt_of_le hm (show 128 ≤ 2 ^ i from Nat.pow_le_pow_right (n := 2) (by decide) (show 7 ≤ i by omega)))] at h
  cases h
theorem rd5 {s : jU} {g : jS} {γ n t dm em b : Nat} (h : Rn s g 4 γ n t dm em b) (k : Rr s g 4 γ n t dm em b) : ∃ s' g', f_Room_extractAll (sA s 4) = some s' ∧ f_Mod_extract (gA g 4) = some g' ∧ f_Mod_thrown g' = some 0 ∧ s' 23 0 0 = I 5 ∧ g' 18 0 = I 5 ∧ Rel s' g' := by
  have hU := Rn_up h (by omega) (by omega) (by omega)
  obtain ⟨hP, hCx, ⟨a1, a2, a3, a4, b1, b2, e1, e2⟩, hDe, hEx, hCm, hMa, hKe, hBo, hSh, hcb, hcd, hsb⟩ := hU
  obtain ⟨-, q2, -, -, -, -, q7, -, -, q10⟩ := k
  have h0 := q2 (by omega)
  subst h0
  obtain ⟨m1, m2, -⟩ := hMa.1
  obtain ⟨s', g', em, b', c1, c2, c3, c4, c5, c7, c8⟩ := round5 hCx hBo (q7 (Or.inr rfl)) hEx m2.2 m2.1 (m1.trans m2.1)
  refine ⟨s', g', c1, c2, thr_fr c8 (by decide) rfl, by rw [c7 23 (by decide)]; exact b1, by rw [c8 18 (by decide)]; exact b2, Rn_to (r := 5) (dm := dm) (em := em) (b := b') ⟨RelP_fr hP c7 c8 (by decide) (by decide), hCx.fr c7 c8 (by decide) (by decide), ⟨by rw [c7 22 (by decide)]; exact a1, by rw [c8 15 (by decide)]; exact a2, by rw [c8 16 (by decide)]; exact a3, by rw [c8 17 (by decide)]; exact a4, by rw [c7 23 (by decide)]; exact b1, by rw [c8 18 (by decide)]; exact b2, by rw [c8 13 (by decide)]; exact e1, by rw [c8 14 (by decide)]; exact e2.1, rCz_fr e2.2 c7 (by decide)⟩, rDe_fr hDe c7 c8 (by decide) (by decide), c5, rCm_fr hCm c7 c8 (by decide) (by decide), rMa_fr hMa c7 c8 (by decide) (by decide), by rw [c7 27 (by decide)]; exact hKe, c3, ?_, ?_, ?_, ?_⟩ ⟨fun e => by omega, fun e => by omega, fun e => by omega, fun e => by omega, fun e => by omega, fun e => by omega, fun e => by omega, fun _ => c4, fun e => by omega, fun _ i hi e => ?_⟩ (by omega)⟩
  · intro i hi
    rw [c7 9 (by decide), c8 36 (by decide), c8 37 (by decide)]; exact hSh i hi
  · unfold rCb at *
    rw [c7 11 (by decide), c8 28 (by decide)]; exact hcb
  · intro i hi e
    rw [c7 11 (by decide)]; exact hcd i hi e
  · unfold rSb at *
    rw [c7 11 (by decide), c8 29 (by decide)]; exact hsb
  · rw [c7 24 (by decide)] at e; exact q10 (by omega) i hi e
theorem rd6 {s : jU} {g : jS} {γ n t dm em b : Nat} (h : Rn s g 5 γ n t dm em b) (k : Rr s g 5 γ n t dm em b) : ∃ s' g', f_Room_accuseAll (sA s 5) = some s' ∧ f_Mod_accuse (gA g 5) = some g' ∧ f_Mod_thrown g' = some 0 ∧ s' 23 0 0 = I 6 ∧ g' 18 0 = I 6 ∧ Rel s' g' := by
  obtain ⟨hP, hCx, ⟨a1, a2, a3, a4, b1, b2, e1, e2⟩, hDe, hEx, hCm, hMa, hKe, hBo, hSh, hcb, hcd, hsb⟩ := h
  obtain ⟨-, -, -, -, -, -, -, q8, -, q10⟩ := k
  obtain ⟨⟨m1, m2, -⟩, ⟨m3, m4, -⟩, ⟨m5, m6, m7⟩⟩ := hMa
  obtain ⟨s', g', b', c1, c2, c3, c4, c5, c7, c8⟩ := round6 (s := sA s 5) (g := gA g 5) hCx hBo (q8 rfl) hDe hEx m2.2 m2.1 (m1.trans m2.1) (fun i hi => q10 (by omega) i (bt_big m2.2 hi) hi) ⟨m3, m4⟩
  refine ⟨s', g', c1, c2, thr_fr c8 (by decide) rfl, by rw [c7 23 (by decide)]; rfl, by rw [c8 18 (by decide)]; rfl, Rn_to (r := 6) (dm := dm) (em := em) (b := b') ⟨RelP_fr (s := sA s 5) (g := gA g 5) hP c7 c8 (by decide) (by decide), Cx.fr (s := sA s 5) (g := gA g 5) hCx c7 c8 (by decide) (by decide), ⟨by rw [c7 22 (by decide)]; exact a1, by rw [c8 15 (by decide)]; exact a2, by rw [c8 16 (by decide)]; exact a3, by rw [c8 17 (by decide)]; exact a4, by rw [c7 23 (by decide)]; rfl, by rw [c8 18 (by decide)]; rfl, by rw [c8 13 (by decide)]; exact e1, by rw [c8 14 (by decide)]; exact e2.1, rCz_fr (s := sA s 5) e2.2 c7 (by decide)⟩, rDe_fr (s := sA s 5) (g := gA g 5) hDe c7 c8 (by decide) (by decide), rEx_fr (s := sA s 5) (g := gA g 5) hEx c7 c8 (by decide) (by decide), rCm_fr (s := sA s 5) (g := gA g 5) hCm c7 c8 (by decide) (by decide), ⟨?_, ⟨c5.1, c5.2, fun e => by omega⟩, ?_⟩, by rw [c7 27 (by decide)]; exact hKe, c3, ?_, ?_, ?_, ?_⟩ ⟨fun e => by omega, fun e => by omega, fun e => by omega, fun e => by omega, fun e => by omega, fun e => by omega, fun e => by omega, fun e => by omega, fun _ => c4, fun _ i hi e => ?_⟩ (by omega)⟩
  · rw [c7 24 (by decide), c8 25 (by decide)]; exact ⟨m1, m2, fun e => by omega⟩
  · rw [c7 26 (by decide), c8 27 (by decide)]; exact ⟨m5, m6, fun _ => m7 (by omega)⟩
  · intro i hi
    rw [c7 9 (by decide), c8 36 (by decide), c8 37 (by decide)]
    obtain ⟨u1, u2⟩ := hSh i hi
    exact ⟨fun _ => u1 (by omega), fun e => by omega⟩
  · unfold rCb at *
    rw [c7 11 (by decide), c8 28 (by decide)]; exact hcb
  · intro i hi e
    rw [c7 11 (by decide)]; exact hcd i hi e
  · unfold rSb at *
    rw [c7 11 (by decide), c8 29 (by decide)]; exact hsb
  · rw [c7 24 (by decide)] at e; exact q10 (by omega) i hi e
theorem rd7 {s : jU} {g : jS} {γ n t dm em b : Nat} (h : Rn s g 6 γ n t dm em b) (k : Rr s g 6 γ n t dm em b) : ∃ s' g', f_Room_openAll (sA s 6) = some s' ∧ f_Mod_open (gA g 6) = some g' ∧ f_Mod_thrown g' = some 0 ∧ s' 23 0 0 = I 7 ∧ g' 18 0 = I 7 ∧ Rel s' g' := by
  obtain ⟨hP, hCx, ⟨a1, a2, a3, a4, b1, b2, e1, e2⟩, hDe, hEx, hCm, hMa, hKe, hBo, hSh, hcb, hcd, hsb⟩ := h
  obtain ⟨-, -, -, -, -, -, -, -, q9, q10⟩ := k
  obtain ⟨⟨m1, m2, -⟩, ⟨m3, m4, -⟩, ⟨m5, m6, -⟩⟩ := hMa
  obtain ⟨s', g', b', v, e, c1, c2, c3, c4, c5, c6, c9, c10, c11, c12, c13, c7, c8⟩ := round7 (s := sA s 6) (g := gA g 6) hCx hBo (q9 rfl) hDe hEx m2.2 m2.1 (m1.trans m2.1) (fun i hi => q10 (by omega) i (bt_big m2.2 hi) hi) ⟨m3, m4⟩ ⟨m5, m6⟩ a4 hKe
  have hq := qg_b γ
  have k23 : s' 23 0 0 = I 7 := by rw [c7 23 (by decide)]; rfl
  have k18 : g' 18 0 = I 7 := by rw [c8 18 (by decide)]; rfl
  obtain ⟨hc, hd, hT, hCo, hFa, hCr⟩ := Cx.fr (s := sA s 6) (g := gA g 6) hCx c7 c8 (by decide) (by decide)
  refine ⟨s', g', c1, c2, thr_fr c8 (by decide) rfl, k23, k18, RelP_fr (s := sA s 6) (g := gA g 6) hP c7 c8 (by decide) (by decide), hT, Or.inr ⟨2 + v, 7, γ, n, t, n, t, dm, em, b', ⟨⟨c4, by rw [c8 15 (by decide)]; exact a2, ?_, ?_, by omega, by omega⟩, ⟨k23, k18, by omega⟩, hc, hd, ⟨by rw [c8 13 (by decide)]; exact e1, by rw [c8 14 (by decide)]; exact e2.1, by omega, by omega, rCz_fr (s := sA s 6) e2.2 c7 (by decide)⟩⟩, hCo, hFa, hCr, rDe_fr (s := sA s 6) (g := gA g 6) hDe c7 c8 (by decide) (by decide), rEx_fr (s := sA s 6) (g := gA g 6) hEx c7 c8 (by decide) (by decide), rCm_fr (s := sA s 6) (g := gA g 6) hCm c7 c8 (by decide) (by decide), ?_, ⟨?_, ?_, ⟨c12.1, c12.2, fun e => by omega⟩⟩, ⟨fun hv => ?_, fun e => by omega⟩, c13, ⟨fun e => by omega, fun _ => rfl, fun _ => Or.inr rfl, fun e => by omega⟩⟩⟩
  · rw [c5]
    rcases c3 with rfl | rfl <;> rfl
  · rw [c6]
    rcases c3 with rfl | rfl <;> rfl
  · intro i hi
    rw [c7 9 (by decide), c8 36 (by decide), c8 37 (by decide)]
    obtain ⟨u1, u2⟩ := hSh i hi
    exact ⟨fun _ => u1 (by omega), fun e => absurd ⟨by omega, fun x => by omega⟩ e⟩
  · rw [c7 24 (by decide), c8 25 (by decide)]; exact ⟨m1, m2, fun e => by omega⟩
  · rw [c7 25 (by decide), c8 26 (by decide)]; exact ⟨m3, m4, fun e => by omega⟩
  · have hv0 : v = 0 := by omega
    rw [c9, U_I (by omega)]
    exact ⟨c11 hv0, OK_I c10 (by omega)⟩
theorem fa_next {s : jU} {g : jS} (h : Rel s g) : FaI Rel [(xS, 1)] s (f_SR_next s) (f_Mod_next g) := by
  obtain ⟨hP, hT, hR⟩ := id h
  unfold FaI f_SR_next f_Mod_next f_Room_stage
  rcases hR with hR | ⟨st, r, γ, n, t, n0, t0, dm, em, b, hS⟩
  · right
    rw [hR.1, hR.2.2.2.1]
    exact ⟨xS, 1, 0, va_up g 0 (fun _ => 1), by simp, rfl, rfl, rfl, Rel_0 _ h⟩
  · obtain ⟨h22, h15, h16, h17, hst1, hst3⟩ := hS.1.1
    by_cases hs1 : st = 1
    · subst hs1
      left
      obtain ⟨hN, hr, hr6⟩ := Rn_of hP hT hS
      obtain ⟨h23, h18, -⟩ := hS.1.2.1
      have hin : ∃ s' g', (if (sA s r 23 0 0) = 1 then Option.bind (f_Room_dealAll (sA s r)) fun s19 => some s19 else if (sA s r 23 0 0) = 2 then Option.bind (f_Room_complainAll (sA s r)) fun s21 => some s21 else if (sA s r 23 0 0) = 3 then Option.bind (f_Room_answerAll (sA s r)) fun s23 => some s23 else if (sA s r 23 0 0) = 4 then Option.bind (f_Room_judgeAll (sA s r)) fun s25 => some s25 else if (sA s r 23 0 0) = 5 then Option.bind (f_Room_extractAll (sA s r)) fun s27 => some s27 else if (sA s r 23 0 0) = 6 then Option.bind (f_Room_accuseAll (sA s r)) fun s29 => some s29 else Option.bind (f_Room_openAll (sA s r)) fun s31 => some s31) = some s' ∧ (if ¬ (gA g r 18 0) = 1 then if ¬ (gA g r 18 0) = 2 then if ¬ (gA g r 18 0) = 3 then if ¬ (gA g r 18 0) = 4 then if ¬ (gA g r 18 0) = 5 then if ¬ (gA g r 18 0) = 6 then Option.bind (f_Mod_open (gA g r)) fun s18 => some s18 else Option.bind (f_Mod_accuse (gA g r)) fun s20 => some s20 else Option.bind (f_Mod_extract (gA g r)) fun s22 => some s22 else Option.bind (f_Mod_judge (gA g r)) fun s24 => some s24 else Option.bind (f_Mod_answer (gA g r)) fun s26 => some s26 else Option.bind (f_Mod_complain (gA g r)) fun s28 => some s28 else Option.bind (f_Mod_deal (gA g r)) fun s30 => some s30) = some g' ∧ f_Mod_thrown g' = some 0 ∧ s' 23 0 0 = I (r + 1) ∧ g' 18 0 = I (r + 1) ∧ Rel s' g' := by
        rw [show sA s r 23 0 0 = I (r + 1) from rfl, show gA g r 18 0 = I (r + 1) from rfl]
        match r, hr6, hN, hr with
        | 0, _, hN, hr =>
          obtain ⟨s', g', c1, c2, c3⟩ := rd1 hN hr
          exact ⟨s', g', by rw [c1]; rfl, by rw [c2]; rfl, c3⟩
        | 1, _, hN, hr =>
          obtain ⟨s', g', c1, c2, c3⟩ := rd2 hN hr
          exact ⟨s', g', by rw [c1]; rfl, by rw [c2]; rfl, c3⟩
        | 2, _, hN, hr =>
          obtain ⟨s', g', c1, c2, c3⟩ := rd3 hN hr
          exact ⟨s', g', by rw [c1]; rfl, by rw [c2]; rfl, c3⟩
        | 3, _, hN, hr =>
          obtain ⟨s', g', c1, c2, c3⟩ := rd4 hN hr
          exact ⟨s', g', by rw [c1]; rfl, by rw [c2]; rfl, c3⟩
        | 4, _, hN, hr =>
          obtain ⟨s', g', c1, c2, c3⟩ := rd5 hN hr
          exact ⟨s', g', by rw [c1]; rfl, by rw [c2]; rfl, c3⟩
        | 5, _, hN, hr =>
          obtain ⟨s', g', c1, c2, c3⟩ := rd6 hN hr
          exact ⟨s', g', by rw [c1]; rfl, by rw [c2]; rfl, c3⟩
        | 6, _, hN, hr =>
          obtain ⟨s', g', c1, c2, c3⟩ := rd7 hN hr
          exact ⟨s', g', by rw [c1]; rfl, by rw [c2]; rfl, c3⟩
      obtain ⟨s', g', c1, c2, c3, c4, c5, c6⟩ := hin
      refine ⟨I (r + 1), s', g', ?_, ?_, c3, c6⟩
      · rw [h22, Option.bind_some, if_pos (show I 1 = 1 from rfl)]
        unfold f_Room_advance
        have e : ups s 23 0 (fun _ => s 23 0 0 + 1) = sA s r := by unfold sA; rw [h23, I1, I_add]
        simp only [jlet]
        rw [e, c1]
        show some (Sum.inr (s' 23 0 0, s')) = _
        rw [c4]
      · rw [h15, h16, h17, if_neg (show ¬ I 1 = 0 by decide)]
        have e : va_up (va_up g 0 (fun _ => (0 : Int32))) 18 (fun _ => va_up g 0 (fun _ => (0 : Int32)) 18 0 + 1) = gA g r := by
          unfold gA
          rw [show va_up g 0 (fun _ => (0 : Int32)) 18 0 = I r from h18, I1, I_add]
        simp only [jlet, Option.bind_some, if_neg (show ¬ (1 : Nat) = 2 by decide), if_neg (show ¬ (1 : Nat) = 3 by decide)]
        rw [if_neg (show ¬ ¬ I 0 = 0 from fun e => e rfl), if_pos (show I 0 = 0 from rfl), Option.bind_some, if_pos (show va_up g 0 (fun _ => (0 : Int32)) 0 0 ≤ 0 from le00), e, c2, Option.bind_some, c5]
    · right
      refine ⟨xS, 1, 0, va_up g 0 (fun _ => 1), by simp, ?_, ?_, rfl, Rel_0 _ h⟩
      · rw [h22, Option.bind_some, if_neg (show ¬ I st = 1 by rw [I1, I_eq (by omega) (by omega)]; exact hs1)]
      · rw [h15, h16, h17]
        match st, hst1, hst3, hs1 with
        | 2, _, _, _ => rfl
        | 3, _, _, _ => rfl

