/-! ===== forgetting ===== -/
theorem mforget_spec (g : jS) : ∃ g', f_Mod_forget g = some g' ∧ (∀ j < 49, g' 19 j = I 0 ∧ g' 20 j = I 0 ∧ g' 21 j = I 0) ∧ (∀ j < 7, g' 22 j = I 8) ∧ ∀ K, K ≠ 19 → K ≠ 20 → K ≠ 21 → K ≠ 22 → g' K = g K := by
  obtain ⟨g1, e1, h1, h1f⟩ := loopU L_Mod_forget_2 49 (fun i s => (∀ j < i, s 19 j = I 0 ∧ s 20 j = I 0 ∧ s 21 j = I 0) ∧ ∀ K, K ≠ 19 → K ≠ 20 → K ≠ 21 → s K = g K) (fun n i s hi hP => by
      have hj : jin (I i) 49 := by rw [I_jin (by omega)]; omega
      refine ⟨va_up (va_up (va_up s 19 (upd (s 19) i 0)) 20 (upd (s 20) i 0)) 21 (upd (s 21) i 0), ⟨?_, ?_⟩, ?_⟩
      · intro j hj
        show upd (s 19) i 0 j = _ ∧ upd (s 20) i 0 j = _ ∧ upd (s 21) i 0 j = _
        by_cases e : j = i
        · subst e; rw [upd_eq, upd_eq, upd_eq]; exact ⟨rfl, rfl, rfl⟩
        · rw [upd_ne e, upd_ne e, upd_ne e]; exact hP.1 j (by omega)
      · intro K a b c
        rw [vu_ne c, vu_ne b, vu_ne a]; exact hP.2 K a b c
      · show L_Mod_forget_2 (n + 1) (I i) s = _
        rw [L_Mod_forget_2, if_neg (show ¬ 49 ≤ I i by rw [I49, I_le (by omega) (by omega)]; omega), if_pos hj, I_cl (by omega)]
        simp only [jlet]
        rw [if_pos hj, if_pos hj, I1, I_add]; rfl)
    (fun n s _ => by rw [L_Mod_forget_2, if_pos (by decide)]) 49 0 jF g (by omega) (by unfold jF; omega) ⟨fun j hj => by omega, fun K _ _ _ => rfl⟩
  obtain ⟨g2, e2, h2, h2f⟩ := loopU L_Mod_forget_37 7 (fun i s => (∀ j < i, s 22 j = I 8) ∧ ∀ K, K ≠ 22 → s K = g1 K) (fun n i s hi hP => by
      have hj : jin (I i) 7 := by rw [I_jin (by omega)]; omega
      refine ⟨va_up s 22 (upd (s 22) i 8), ⟨?_, ?_⟩, ?_⟩
      · intro j hj
        show upd (s 22) i 8 j = _
        by_cases e : j = i
        · subst e; rw [upd_eq]; rfl
        · rw [upd_ne e]; exact hP.1 j (by omega)
      · intro K a
        rw [vu_ne a]; exact hP.2 K a
      · rw [L_Mod_forget_37, if_neg (show ¬ 7 ≤ I i by rw [I7, I_le (by omega) (by omega)]; omega), if_pos hj, I_cl (by omega)]
        simp only [jlet]
        rw [I1, I_add])
    (fun n s _ => by rw [L_Mod_forget_37, if_pos (by decide)]) 7 0 jF g1 (by omega) (by unfold jF; omega) ⟨fun j hj => by omega, fun K _ => rfl⟩
  refine ⟨g2, ?_, ?_, h2, ?_⟩
  · unfold f_Mod_forget
    rw [show L_Mod_forget_2 jF 0 g = _ from e1]
    simp only [Option.bind_some]
    rw [show L_Mod_forget_37 jF 0 g1 = _ from e2]; rfl
  · intro j hj
    rw [h2f 19 (by decide), h2f 20 (by decide), h2f 21 (by decide)]; exact h1 j hj
  · intro K a b c d
    rw [h2f K d]; exact h1f K a b c
theorem pclear_spec (k : Nat) (s : jU) : ∃ s', f_Party_clear k s = some s' ∧ ((∀ j < 7, s' 0 k j = I 0 ∧ s' 1 k j = I 0 ∧ s' 2 k j = I 0) ∧ s' 10 k 0 = I 8 ∧ (∀ j < 7, s' 3 k j = -1 ∧ s' 4 k j = -1) ∧ (∀ j < 8, s' 5 k j = -1 ∧ s' 6 k j = -1 ∧ s' 7 k j = -1) ∧ (s' 9 k 0 = -1 ∧ s' 9 k 1 = -1) ∧ s' 11 k 0 = I 0 ∧ s' 12 k 0 = I 0 ∧ s' 13 k 0 = I 0) ∧ (∀ K j, j ≠ k → s' K j = s K j) ∧ (∀ K, 14 ≤ K → s' K = s K) := by
  refine ⟨_, rfl, ⟨?_, ?_, ?_, ?_, ?_, ?_⟩, ?_, ?_⟩
  · intro j hj
    simp +decide [ups, va_up, afl, hj]
  · simp +decide [ups, va_up]
  · intro j hj
    simp +decide [ups, va_up, afl, hj]
  · intro j hj
    simp +decide [ups, va_up, afl, hj]
  · simp +decide [ups, va_up, upd]
  · simp +decide [ups, va_up]
  · intro K j hj
    simp only [ups_ni hj]
  · intro K hK
    simp (disch := omega) only [show (0 : Int32).toNatClampNeg = 0 from rfl, show ((0 : Int32) + 1).toNatClampNeg = 1 from rfl, ups_nK]
def clr (s : jU) (k : Nat) : Prop := (∀ j < 7, s 0 k j = I 0 ∧ s 1 k j = I 0 ∧ s 2 k j = I 0) ∧ s 10 k 0 = I 8 ∧ (∀ j < 7, s 3 k j = -1 ∧ s 4 k j = -1) ∧ (∀ j < 8, s 5 k j = -1 ∧ s 6 k j = -1 ∧ s 7 k j = -1) ∧ (s 9 k 0 = -1 ∧ s 9 k 1 = -1) ∧ s 11 k 0 = I 0 ∧ s 12 k 0 = I 0 ∧ s 13 k 0 = I 0
theorem clearall_spec (s : jU) : ∃ s', L_Room_start_77 jF 1 s = some (I 8, s') ∧ (∀ k < 7, clr s' k) ∧ (∀ K, 14 ≤ K → s' K = s K) := by
  obtain ⟨s', e, h1, h2⟩ := loopU L_Room_start_77 8 (fun i s1 => 1 ≤ i ∧ (∀ k < i - 1, clr s1 k) ∧ ∀ K, 14 ≤ K → s1 K = s K) (fun n i s1 hi hP => by
      obtain ⟨s2, e2, ha, hb, hc⟩ := pclear_spec (i - 1) s1
      refine ⟨s2, ⟨by omega, ?_, ?_⟩, ?_⟩
      · intro k hk
        by_cases ek : k = i - 1
        · subst ek; exact ha
        · have := hP.2.1 k (by omega)
          unfold clr at *
          simp only [hb _ k ek]; exact this
      · intro K hK
        rw [hc K hK]; exact hP.2.2 K hK
      · rw [L_Room_start_77, if_neg (show ¬ 7 < I i by rw [I7, I_lt (by omega) (by omega)]; omega), jidx_P (by omega), Option.bind_some, e2, Option.bind_some]
        simp only [jlet]
        rw [I1, I_add])
    (fun n s _ => by rw [L_Room_start_77, if_pos (by decide)]) 7 1 jF s (by omega) (by unfold jF; omega) ⟨by omega, fun k hk => by omega, fun K _ => rfl⟩
  exact ⟨s', e, fun k hk => h2.1 k (by omega), h2.2⟩
theorem mbegin_loop (g : jS) : ∃ g', L_Mod_begin_150 jF 0 g = some (I 7, g') ∧ (∀ j < 7, g' 28 j = I 0 ∧ g' 29 j = I 0) ∧ ∀ K, K ≠ 28 → K ≠ 29 → g' K = g K := by
  obtain ⟨g2, e2, h2, h2f⟩ := loopU L_Mod_begin_150 7 (fun i s => (∀ j < i, s 28 j = I 0 ∧ s 29 j = I 0) ∧ ∀ K, K ≠ 28 → K ≠ 29 → s K = g K) (fun n i s hi hP => by
      have hj : jin (I i) 7 := by rw [I_jin (by omega)]; omega
      refine ⟨va_up (va_up s 28 (upd (s 28) i 0)) 29 (upd (s 29) i 0), ⟨?_, ?_⟩, ?_⟩
      · intro j hj
        show upd (s 28) i 0 j = _ ∧ upd (s 29) i 0 j = _
        by_cases e : j = i
        · subst e; rw [upd_eq, upd_eq]; exact ⟨rfl, rfl⟩
        · rw [upd_ne e, upd_ne e]; exact hP.1 j (by omega)
      · intro K a b
        rw [vu_ne b, vu_ne a]; exact hP.2 K a b
      · rw [L_Mod_begin_150, if_neg (show ¬ 7 ≤ I i by rw [I7, I_le (by omega) (by omega)]; omega), if_pos hj, I_cl (by omega)]
        simp only [jlet]
        rw [if_pos hj, I1, I_add]; rfl)
    (fun n s _ => by rw [L_Mod_begin_150, if_pos (by decide)]) 7 0 jF g (by omega) (by unfold jF; omega) ⟨fun j hj => by omega, fun K _ _ => rfl⟩
  exact ⟨g2, e2, h2, h2f⟩
theorem OK0 {q : Nat} (h : 0 < q) (hq : q ≤ 2147483648) : OK q (I 0) := OK_I h hq
theorem bt0 (k : Nat) : bt 0 k = false := by unfold bt; exact Nat.zero_testBit _
theorem bt0f {k : Nat} (h : bt 0 k = true) : False := by rw [bt0] at h; cases h
theorem begin_ok {s : jU} {g : jS} (h : Rel s g) {γ n t : Nat} (hγ : γ < 2) (h1 : 1 ≤ t) (h2 : t ≤ n) (h3 : n ≤ 7) : ∃ s2 g2, f_Room_start (I γ) (I n) (I t) s = some s2 ∧ (jlet (va_up g 0 (fun _ => 0)) fun s10 => if (s10 0 0) ≤ 0 then
    jlet (va_up s10 9 (fun _ => I γ)) fun s13 =>
    Option.bind (α := Int32) (
      if ¬ (s13 9 0) = 0 then
        some 31
      else
        some 1019) fun x16 =>
    jlet (va_up s13 10 (fun _ => x16)) fun s19 =>
    jlet (va_up s19 11 (fun _ => I n)) fun s21 =>
    jlet (va_up s21 12 (fun _ => I t)) fun s23 =>
    jlet (va_up s23 13 (fun _ => s23 11 0)) fun s25 =>
    jlet (va_up s25 14 (fun _ => s25 12 0)) fun s27 =>
    jlet (va_up s27 15 (fun _ => 1)) fun s29 =>
    jlet (va_up s29 16 (fun _ => 0)) fun s31 =>
    jlet (va_up s31 17 (fun _ => 0)) fun s33 =>
    jlet (va_up s33 18 (fun _ => 0)) fun s35 =>
    jlet (va_up s35 40 (fun _ => 0)) fun s37 =>
    jlet (va_up s37 23 (fun _ => 0)) fun s39 =>
    jlet (va_up s39 24 (fun _ => 0)) fun s41 =>
    jlet (va_up s41 25 (fun _ => 0)) fun s43 =>
    jlet (va_up s43 26 (fun _ => 0)) fun s45 =>
    jlet (va_up s45 27 (fun _ => 0)) fun s47 =>
    Option.bind (L_Mod_begin_150 jF 0 s47) fun (x60, s61) =>
    Option.bind (f_Mod_forget s61) fun s63 =>
    some s63
  else
    some s10) = some g2 ∧ f_Mod_thrown g2 = some 0 ∧ Rel s2 g2 := by
  have hc : ∀ a : Int32, (jlet (va_up g 0 (fun _ => 0)) fun s10 => if (s10 0 0) ≤ 0 then jlet (va_up s10 9 (fun _ => I γ)) fun s13 => some (s13, a) else none) = some (va_up (va_up g 0 (fun _ => 0)) 9 (fun _ => I γ), a) := fun a => rfl
  simp only [jlet]
  rw [if_pos (show va_up g 0 (fun _ => (0 : Int32)) 0 0 ≤ 0 from le00)]
  rw [show (if ¬ va_up (va_up g 0 (fun _ => (0 : Int32))) 9 (fun _ => I γ) 9 0 = 0 then some (31 : Int32) else some 1019) = some (I (qg γ)) from by
    show (if ¬ I γ = 0 then some (31 : Int32) else some 1019) = _
    match γ, hγ with | 0, _ => rfl | 1, _ => rfl]
  rw [Option.bind_some]
  generalize hG : va_up (va_up (va_up (va_up (va_up (va_up (va_up (va_up (va_up (va_up (va_up (va_up (va_up (va_up (va_up (va_up (va_up g 0 (fun _ => (0 : Int32))) 9 (fun _ => I γ)) 10 (fun _ => I (qg γ))) 11 (fun _ => I n)) 12 (fun _ => I t)) 13 _) 14 _) 15 _) 16 _) 17 _) 18 _) 40 _) 23 _) 24 _) 25 _) 26 _) 27 _ = G
  obtain ⟨g1, e1, ha, hb⟩ := mbegin_loop G
  rw [e1, Option.bind_some]
  obtain ⟨g2, e2, hc, hd, he⟩ := mforget_spec g1
  show ∃ s2 g2_1, _ ∧ (Option.bind (f_Mod_forget g1) fun s63 => some s63) = some g2_1 ∧ _
  rw [e2]
  unfold f_Room_start
  rw [jidx_I hγ (by omega), Option.bind_some]
  simp only [jlet, f_Board_clear, Option.bind_some]
  generalize hSS : ups (ups (ups (ups (ups (ups (ups (ups (ups (ups (ups s 50 0 _) 53 0 _) 20 0 _) 21 0 _) 22 0 _) 23 0 _) 24 0 _) 25 0 _) 26 0 _) 27 0 _) 41 0 _ = SS
  obtain ⟨s2, e3, hs1, hs2⟩ := clearall_spec SS
  rw [e3]
  refine ⟨s2, g2, rfl, rfl, ?_, ?_⟩
  · show some (g2 0 0) = _
    rw [he 0 (by decide) (by decide) (by decide) (by decide), hb 0 (by decide) (by decide), ← hG]; rfl
  have G1 : ∀ K, K ≠ 19 → K ≠ 20 → K ≠ 21 → K ≠ 22 → K ≠ 28 → K ≠ 29 → g2 K = G K := fun K a b c d e f => by rw [he K a b c d, hb K e f]
  have gq : ∀ K < 9, K ≠ 0 → g2 K = g K := fun K hK h0 => by
    rw [G1 K (by omega) (by omega) (by omega) (by omega) (by omega) (by omega), ← hG]
    simp (disch := omega) only [vu_ne]
  have gq2 : ∀ K, 41 ≤ K → g2 K = g K := fun K hK => by
    rw [G1 K (by omega) (by omega) (by omega) (by omega) (by omega) (by omega), ← hG]
    simp (disch := omega) only [vu_ne]
  have sq : ∀ K, 28 ≤ K → K ≠ 41 → K ≠ 50 → K ≠ 53 → s2 K = s K := fun K hK a b c => by
    rw [hs2 K (by omega), ← hSS]
    simp (disch := omega) only [ups_nK]
  have sv : ∀ K, 14 ≤ K → s2 K = SS K := fun K hK => hs2 K hK
  refine ⟨?_, ?_, Or.inr ⟨1, 0, γ, n, t, n, t, 0, 0, 0, ?_⟩⟩
  · have := h.1
    unfold RelP at *
    rw [sq 51 (by omega) (by omega) (by omega) (by omega), sq 33 (by omega) (by omega) (by omega) (by omega), sq 30 (by omega) (by omega) (by omega) (by omega), sq 31 (by omega) (by omega) (by omega) (by omega), gq 1 (by omega) (by omega), gq 2 (by omega) (by omega), gq 3 (by omega) (by omega), gq 4 (by omega) (by omega)]
    exact this
  · have := h.2.1
    unfold RelT at *
    rw [gq 6 (by omega) (by omega), gq 7 (by omega) (by omega), gq 8 (by omega) (by omega), gq2 42 (by omega), gq2 43 (by omega), gq2 45 (by omega)]
    exact this
  · have g23 : ∀ K, (K = 9 → g2 K 0 = I γ) ∧ (K = 10 → g2 K 0 = I (qg γ)) ∧ (K = 11 → g2 K 0 = I n) ∧ (K = 12 → g2 K 0 = I t) ∧ (K = 13 → g2 K 0 = I n) ∧ (K = 14 → g2 K 0 = I t) ∧ (K = 15 → g2 K 0 = I 1) ∧ (K = 16 ∨ K = 17 ∨ K = 18 ∨ K = 23 ∨ K = 24 ∨ K = 25 ∨ K = 26 ∨ K = 27 ∨ K = 40 → g2 K 0 = I 0) := by
      intro K
      refine ⟨?_, ?_, ?_, ?_, ?_, ?_, ?_, ?_⟩
      all_goals intro e
      rotate_right
      · rcases e with e | e | e | e | e | e | e | e | e <;> subst e <;> rw [G1 _ (by decide) (by decide) (by decide) (by decide) (by decide) (by decide), ← hG] <;> rfl
      all_goals (subst e; rw [G1 _ (by decide) (by decide) (by decide) (by decide) (by decide) (by decide), ← hG]; rfl)
    have gz : ∀ K, (K = 16 ∨ K = 17 ∨ K = 18 ∨ K = 23 ∨ K = 24 ∨ K = 25 ∨ K = 26 ∨ K = 27 ∨ K = 40 → g2 K 0 = I 0) := fun K => (g23 K).2.2.2.2.2.2.2
    have s50 : s2 50 0 0 = I γ := by rw [sv 50 (by omega), ← hSS]; rfl
    have s53 : s2 53 0 0 = I (1 + γ) := by
      rw [sv 53 (by omega), ← hSS]
      show Int32.ofNat (1 + gnum (I γ)) = _
      rw [gnum_q hγ]; rfl
    have s20 : s2 20 0 0 = I n := by rw [sv 20 (by omega), ← hSS]; rfl
    have s21 : s2 21 0 0 = I t := by rw [sv 21 (by omega), ← hSS]; rfl
    have s22 : s2 22 0 0 = I 1 := by rw [sv 22 (by omega), ← hSS]; rfl
    have s23 : s2 23 0 0 = I 0 := by rw [sv 23 (by omega), ← hSS]; rfl
    have s24 : s2 24 0 0 = I 0 := by rw [sv 24 (by omega), ← hSS]; rfl
    have s25 : s2 25 0 0 = I 0 := by rw [sv 25 (by omega), ← hSS]; rfl
    have s26 : s2 26 0 0 = I 0 := by rw [sv 26 (by omega), ← hSS]; rfl
    have s41 : s2 41 0 0 = I 0 := by rw [sv 41 (by omega), ← hSS]; rfl
    have s27 : s2 27 0 0 = el γ 0 := by
      rw [sv 27 (by omega), ← hSS]
      show gneu (gnum (I γ)) = _
      rw [gnum_q hγ, gneu_el hγ]
    have hq := qg_b γ
    have g28 : ∀ i < 7, g2 28 i = I 0 ∧ g2 29 i = I 0 := fun i hi => by
      rw [he 28 (by decide) (by decide) (by decide) (by decide), he 29 (by decide) (by decide) (by decide) (by decide)]; exact ha i hi
    refine ⟨⟨⟨s22, (g23 15).2.2.2.2.2.2.1 rfl, gz 16 (by simp), gz 17 (by simp), by omega, by omega⟩, ⟨s23, gz 18 (by simp), by omega⟩, ⟨s50, s53, (g23 9).1 rfl, (g23 10).2.1 rfl, hγ⟩, ⟨s20, (g23 11).2.2.1 rfl, s21, (g23 12).2.2.2.1 rfl, h1, h2, h3⟩, ⟨(g23 13).2.2.2.2.1 rfl, (g23 14).2.2.2.2.2.1 rfl, h3, by omega, fun i hi k _ hk => ((hs1 i hi).1 k hk).1⟩⟩, ?_, ?_, ?_, ⟨gz 23 (by simp), ⟨by omega, ?_, ?_⟩, ?_, ?_⟩, ⟨gz 24 (by simp), ⟨by omega, ?_, ?_⟩⟩, ?_, ?_, ⟨⟨?_, ?_, fun _ => s24⟩, ⟨?_, ?_, fun _ => s25⟩, ⟨?_, ?_, fun _ => s26⟩⟩, ⟨fun e => by omega, fun _ => s27⟩, ⟨s41, gz 40 (by simp), by omega, fun j hj => by omega⟩, ?_⟩
    · intro i hi k hk
      obtain ⟨a, b, c⟩ := (hs1 i hi).1 k hk
      obtain ⟨a', b', c'⟩ := hc (7 * i + k) (by omega)
      rw [a, b, a', b']
      exact ⟨⟨rfl, OK0 (by omega) (by omega)⟩, ⟨rfl, OK0 (by omega) (by omega)⟩⟩
    · intro i hi k hk
      obtain ⟨a, b, c⟩ := (hs1 i hi).1 k hk
      obtain ⟨a', b', c'⟩ := hc (7 * k + i) (by omega)
      rw [c, c']
      exact ⟨OK0 (by omega) (by omega), fun _ => ⟨rfl, by rw [Ne, I_eq (by omega) (by omega)]; omega⟩, fun _ => rfl⟩
    · intro i hi
      rw [hd i hi, (hs1 i hi).2.1]
      exact ⟨rfl, OK_I (by omega) (by omega)⟩
    · intro i hi
      rw [(hs1 i hi).2.2.2.2.2.2.1, bt0]; rfl
    · intro i hi k hk
      exact ⟨fun e => (bt0f e).elim, fun _ => ((hs1 i hi).2.2.1 k hk).1⟩
    · intro i hi j hj
      exact ⟨fun e => (bt0f e).elim, fun _ => ((hs1 j hj).2.2.2.1 (i + 1) (by omega)).1⟩
    · intro i hi j hj
      exact ⟨fun e => (bt0f e).elim, fun _ => ((hs1 j hj).2.2.2.1 (i + 1) (by omega)).2.1⟩
    · intro i hi
      rw [(hs1 i hi).2.2.2.2.2.2.2, bt0]; rfl
    · intro i hi k hk
      exact ⟨fun e => (bt0f e).elim, fun _ => ((hs1 i hi).2.2.1 k hk).2⟩
    · intro i hi
      rw [(g28 i hi).1, (g28 i hi).2, (hs1 i hi).2.2.2.2.2.1]
      refine ⟨⟨rfl, OK0 (by omega) (by omega), OK0 (by omega) (by omega)⟩, fun c hc' => ⟨fun e => ?_, fun _ => ((hs1 i hi).2.2.2.1 (c + 1) (by omega)).2.2⟩⟩
      rw [U_I (by omega), bt0] at e; cases e
    · intro i hi
      exact ⟨fun e => by omega, fun _ => (hs1 i (by omega)).2.2.2.2.1⟩
    · rw [s24, gz 25 (by simp)]
    · rw [s24]; exact OK0 (by omega) (by omega)
    · rw [s25, gz 26 (by simp)]
    · rw [s25]; exact OK0 (by omega) (by omega)
    · rw [s26, gz 27 (by simp)]
    · rw [s26]; exact OK0 (by omega) (by omega)
    · refine ⟨fun _ => ⟨by omega, rfl, rfl⟩, fun e => by omega, fun e => by omega, fun _ => ⟨fun _ => ⟨rfl, rfl⟩, fun _ => rfl, fun _ i hi => (hs1 i hi).2.2.2.2.2.1, fun _ i hi => (g28 i hi).2, ?_, ?_, fun e => by omega, fun e => by omega, fun e => by omega, fun e => by omega, fun e => by omega, fun e => by omega⟩⟩
      · intro i hi
        refine ⟨?_, fun _ => (hs1 i hi).2.2.2.2.2.1⟩
        rw [(hs1 i hi).2.2.2.2.2.1, U_I (by omega)]; exact Nat.two_pow_pos n
      · intro i hi c hc' e
        rw [(g28 i hi).2, U_I (by omega), bt0] at e; cases e

theorem fa_begin {s : jU} {g : jS} (h : Rel s g) (x y z : Int32) : FaV Rel [(xA, 1)] s (f_SR_begin x y z s) (f_Mod_begin x y z g) := by
  have hbad : ∀ F : jS → Option jS, (∀ g', g' 0 0 = 1 → F g' = some g') → ∃ g2, jlet (va_up g 0 (fun _ => 1)) F = some g2 ∧ f_Mod_thrown g2 = some 1 ∧ Rel s g2 := fun F hF => ⟨_, hF _ rfl, rfl, Rel_0 _ h⟩
  have hF : ∀ g' : jS, g' 0 0 = 1 → ¬ g' 0 0 ≤ 0 := fun g' e => by rw [e]; decide
  by_cases hok : ∃ γ n t, x = I γ ∧ γ < 2 ∧ y = I n ∧ z = I t ∧ 1 ≤ t ∧ t ≤ n ∧ n ≤ 7
  · obtain ⟨γ, n, t, rfl, hγ, rfl, rfl, h1, h2, h3⟩ := hok
    left
    obtain ⟨s2, g2, e1, e2, e3, e4⟩ := begin_ok h hγ h1 h2 h3
    refine ⟨s2, g2, ?_, ?_, e3, e4⟩
    · unfold f_SR_begin f_Room_hasGroup f_Room_isCommittee
      rw [if_neg (show ¬ I γ < 0 by rw [I0, I_lt (by omega) (by omega)]; omega), if_neg (show ¬ 2 ≤ I γ by rw [I2, I_le (by omega) (by omega)]; omega), if_neg (show ¬ I n < 1 by rw [I1, I_lt (by omega) (by omega)]; omega), if_neg (show ¬ 7 < I n by rw [I7, I_lt (by omega) (by omega)]; omega), if_neg (show ¬ I t < 1 by rw [I1, I_lt (by omega) (by omega)]; omega), if_neg (show ¬ I n < I t by rw [I_lt (by omega) (by omega)]; omega), e1]
      rfl
    · unfold f_Mod_begin
      rw [if_neg (show ¬ I γ < 0 by rw [I0, I_lt (by omega) (by omega)]; omega), if_neg (show ¬ 1 < I γ by rw [I1, I_lt (by omega) (by omega)]; omega), if_neg (show ¬ I n < 1 by rw [I1, I_lt (by omega) (by omega)]; omega), if_neg (show ¬ 7 < I n by rw [I7, I_lt (by omega) (by omega)]; omega), if_neg (show ¬ I t < 1 by rw [I1, I_lt (by omega) (by omega)]; omega), if_pos (show I t ≤ I n by rw [I_le (by omega) (by omega)]; omega)]
      exact e2
  · right
    have hm : ∃ g2, f_Mod_begin x y z g = some g2 ∧ f_Mod_thrown g2 = some 1 ∧ Rel s g2 := by
      unfold f_Mod_begin
      have hx : (if x < 0 then some (1 : Int32) else if 1 < x then some 1 else if y < 1 then some 1 else if 7 < y then some 1 else if z < 1 then some 1 else if z ≤ y then some 0 else some 1) = some 1 := by
        rcases I_cases x with hx | ⟨a, rfl, ha⟩
        · rw [if_pos hx]
        · split
          · rfl
          split
          · rfl
          rename_i _ h2
          rcases I_cases y with hy | ⟨b, rfl, hb⟩
          · rw [if_pos (show y < 1 from ng_lt (n := 1) hy (by decide))]
          split
          · rfl
          split
          · rfl
          rename_i h3 h4
          rcases I_cases z with hz | ⟨c, rfl, hc⟩
          · rw [if_pos (show z < 1 from ng_lt (n := 1) hz (by decide))]
          split
          · rfl
          split
          · rename_i h5 h6
            exfalso
            apply hok
            rw [I1, I_lt (by omega) (by omega)] at h2 h3 h5
            rw [I7, I_lt (by omega) (by omega)] at h4
            rw [I_le (by omega) (by omega)] at h6
            exact ⟨a, b, c, rfl, by omega, rfl, rfl, by omega, by omega, by omega⟩
          · rfl
      rw [hx, Option.bind_some]
      exact hbad _ (fun g' e => if_neg (hF g' e))
    have hcl : f_SR_begin x y z s = some (.inl xA) := by
      unfold f_SR_begin f_Room_hasGroup f_Room_isCommittee
      rcases I_cases x with hx | ⟨a, rfl, ha⟩
      · rw [if_pos hx]; rfl
      have h0 : ¬ I a < 0 := by rw [I0, I_lt (by omega) (by omega)]; omega
      rw [if_neg h0]
      by_cases ha2 : a < 2
      · rw [if_neg (show ¬ 2 ≤ I a by rw [I2, I_le (by omega) (by omega)]; omega)]
        rw [show (Option.bind (some (1 : Int32)) fun x12 => if jbo x12 then some x12 else none) = some 1 from rfl, Option.bind_some, if_neg (show ¬ (1 : Int32) = 0 by decide)]
        rcases I_cases y with hy | ⟨b, rfl, hb⟩
        · rw [if_pos (show y < 1 from ng_lt (n := 1) hy (by decide))]; rfl
        by_cases hb1 : I b < 1
        · rw [if_pos hb1]; rfl
        rw [if_neg hb1]
        by_cases hb7 : 7 < I b
        · rw [if_pos hb7]; rfl
        rw [if_neg hb7]
        rcases I_cases z with hz | ⟨c, rfl, hc⟩
        · rw [if_pos (show z < 1 from ng_lt (n := 1) hz (by decide))]; rfl
        by_cases hc1 : I c < 1
        · rw [if_pos hc1]; rfl
        rw [if_neg hc1]
        by_cases hcb : I b < I c
        · rw [if_pos hcb]; rfl
        · exfalso
          apply hok
          rw [I1, I_lt (by omega) (by omega)] at hb1 hc1
          rw [I7, I_lt (by omega) (by omega)] at hb7
          rw [I_lt (by omega) (by omega)] at hcb
          exact ⟨a, b, c, rfl, by omega, rfl, rfl, by omega, by omega, by omega⟩
      · rw [if_pos (show 2 ≤ I a by rw [I2, I_le (by omega) (by omega)]; omega)]; rfl
    obtain ⟨g2, e1, e2, e3⟩ := hm
    exact ⟨xA, 1, g2, List.mem_singleton.mpr rfl, hcl, e1, e2, e3⟩

/-! ===== give ===== -/
theorem xor_neg (x y : Int32) : (x ^^^ y < 0) ↔ (x < 0 ↔ ¬ y < 0) := by
  have h : ∀ z : Int32, z < 0 ↔ z.toBitVec.msb = true := fun z => by
    rw [Int32.lt_iff_toBitVec_slt]; exact BitVec.slt_zero_iff_msb_cond
  rw [h, h, h, Int32.toBitVec_xor, BitVec.msb_xor]
  cases x.toBitVec.msb <;> cases y.toBitVec.msb <;> simp
theorem jrem_neg {x : Int32} {q : Nat} (hx : x < 0) (hq : 31 ≤ q ∧ q ≤ 1019) : (jrem x (I q)).toInt = x.toInt.tmod q := by
  have h0 : x.toInt < 0 := by rw [Int32.lt_iff_toInt_lt] at hx; exact hx
  have h1 := x.le_toInt
  have hd : x.toInt.tdiv q = -(((-x.toInt).tdiv q)) := by rw [Int.neg_tdiv]; omega
  have hd2 : (-x.toInt).tdiv q = (-x.toInt) / q := Int.tdiv_eq_ediv_of_nonneg (by omega)
  have hb1 : 0 ≤ (-x.toInt) / (q : Int) := Int.ediv_nonneg (by omega) (by omega)
  have hb2 : (-x.toInt) / (q : Int) * q ≤ -x.toInt := Int.ediv_mul_le _ (by omega)
  have hb3 : (-x.toInt) / (q : Int) ≤ -x.toInt := Int.ediv_le_self _ (by omega)
  have hb4 : 0 ≤ (-x.toInt / (q : Int)) * q := Int.mul_nonneg hb1 (by omega)
  have e1 : (x / I q).toInt = x.toInt.tdiv q := by
    rw [Int32.toInt_div, I_toInt (by omega), hd, hd2]
    exact Int.bmod_eq_of_le (by simp; omega) (by simp; omega)
  unfold jrem
  have e2 : (x / I q * I q).toInt = x.toInt.tdiv q * q := by
    rw [Int32.toInt_mul, e1, I_toInt (by omega), hd, hd2]
    refine Int.bmod_eq_of_le ?_ ?_
    · have : -(-x.toInt / (q : Int)) * q = -((-x.toInt / (q : Int)) * q) := by rw [Int.neg_mul]
      rw [this]; simp; omega
    · have : -(-x.toInt / (q : Int)) * q = -((-x.toInt / (q : Int)) * q) := by rw [Int.neg_mul]
      rw [this]
      have : 0 ≤ (-x.toInt / (q : Int)) * q := Int.mul_nonneg hb1 (by omega)
      simp; omega
  rw [Int32.toInt_sub, e2, Int.tmod_def]
  have e3 : x.toInt.tdiv q * q = -((-x.toInt / (q : Int)) * q) := by rw [hd, hd2, Int.neg_mul]
  rw [Int.mul_comm (q : Int), e3]
  generalize -x.toInt / (q : Int) * q = y at hb2 hb4 ⊢
  exact Int.bmod_eq_of_le (by simp; omega) (by simp; omega)
theorem fmod_spec (x : Int32) {q : Nat} (hq : 31 ≤ q ∧ q ≤ 1019) : ∃ v, v < q ∧ f_Math_floorMod x (I q) = some (I v) ∧ (if 0 ≤ jrem x (I q) then some (jrem x (I q)) else some (jrem x (I q) + I q)) = some (I v) := by
  unfold f_Math_floorMod
  rw [if_pos (show ¬ I q = 0 by rw [I0, I_eq (by omega) (by omega)]; omega)]
  simp only [jlet]
  have hqn : ¬ I q < 0 := by rw [I0, I_lt (by omega) (by omega)]; omega
  rcases I_cases x with hx | ⟨a, rfl, ha⟩
  · have hxor : ¬ 0 ≤ x ^^^ I q := by
      have := (xor_neg x (I q)).mpr ⟨fun _ => hqn, fun _ => hx⟩
      rw [Int32.le_iff_toInt_le]; rw [Int32.lt_iff_toInt_lt] at this; omega
    rw [if_neg hxor]
    have e := jrem_neg hx hq
    have h0 : x.toInt < 0 := by rw [Int32.lt_iff_toInt_lt] at hx; exact hx
    have hd2 : (-x.toInt).tmod q = (-x.toInt) % q := Int.tmod_eq_emod_of_nonneg (by omega)
    have hneg : x.toInt.tmod q = -((-x.toInt) % (q : Int)) := by rw [← hd2, Int.neg_tmod]; omega
    have hb1 : 0 ≤ (-x.toInt) % (q : Int) := Int.emod_nonneg _ (by omega)
    have hb2 : (-x.toInt) % (q : Int) < q := Int.emod_lt_of_pos _ (by omega)
    by_cases hz : (-x.toInt) % (q : Int) = 0
    · have ez : jrem x (I q) = 0 := by
        apply Int32.toInt_inj.mp
        rw [e, hneg, hz]; rfl
      refine ⟨0, by omega, ?_, ?_⟩
      · rw [if_pos ez, ez]; rfl
      · rw [if_pos (by rw [ez]; decide), ez]; rfl
    · have ez : jrem x (I q) ≠ 0 := fun h => by
        rw [h, hneg] at e
        have : (0 : Int32).toInt = 0 := rfl
        omega
      have el : ¬ 0 ≤ jrem x (I q) := by
        rw [Int32.le_iff_toInt_le, e, hneg]
        have : (0 : Int32).toInt = 0 := rfl
        omega
      have ev : jrem x (I q) + I q = I ((q : Int) - (-x.toInt) % (q : Int)).toNat := by
        apply Int32.toInt_inj.mp
        rw [Int32.toInt_add, e, hneg, I_toInt (by omega), I_toInt (by omega)]
        rw [Int.bmod_eq_of_le (by simp; omega) (by simp; omega)]; omega
      refine ⟨((q : Int) - (-x.toInt) % (q : Int)).toNat, by omega, ?_, ?_⟩
      · rw [if_neg ez, ev]
      · rw [if_neg el, ev]
  · have h0 : ¬ I a < 0 := by rw [I0, I_lt (by omega) (by omega)]; omega
    have hxor : 0 ≤ I a ^^^ I q := by
      have : ¬ I a ^^^ I q < 0 := fun h => h0 (((xor_neg _ _).mp h).mpr hqn)
      rw [Int32.le_iff_toInt_le]; rw [Int32.lt_iff_toInt_lt] at this; omega
    have hl : a % q < q := Nat.mod_lt _ (by omega)
    rw [if_pos hxor, I_rem ha (by omega), if_pos (show 0 ≤ I (a % q) by rw [I0, I_le (by omega) (by omega)]; omega)]
    exact ⟨a % q, hl, rfl, rfl⟩
theorem give_co {s : jU} {g : jS} {γ p k v w : Nat} (hq : 31 ≤ qg γ ∧ qg γ ≤ 1019) (hp : 1 ≤ p ∧ p ≤ 7) (hk : k < 7) (hw : w < 2) (hv : v < qg γ) (h : rCo s g γ) : rCo (ups s (0 + w) (p - 1) (upd (s (0 + w) (p - 1)) k (I v))) (va_up g (19 + w) (upd (g (19 + w)) (7 * (p - 1) + k) (I v))) γ := by
  intro i hi j hj
  obtain ⟨⟨a1, a2⟩, ⟨b1, b2⟩⟩ := h i hi j hj
  match w, hw with
  | 0, _ =>
    show (upd (g 19) (7 * (p - 1) + k) (I v) (7 * i + j) = ups s 0 (p - 1) (upd (s 0 (p - 1)) k (I v)) 0 i j ∧ OK (qg γ) (ups s 0 (p - 1) (upd (s 0 (p - 1)) k (I v)) 0 i j)) ∧ (g 20 (7 * i + j) = s 1 i j ∧ OK (qg γ) (s 1 i j))
    refine ⟨?_, b1, b2⟩
    by_cases e : i = p - 1
    · subst e
      rw [ups_eq]
      by_cases e2 : j = k
      · subst e2; rw [upd_eq, upd_eq]; exact ⟨rfl, OK_I hv (by omega)⟩
      · rw [upd_ne (by omega), upd_ne e2]; exact ⟨a1, a2⟩
    · rw [ups_ni e, upd_ne (by omega)]; exact ⟨a1, a2⟩
  | 1, _ =>
    show (g 19 (7 * i + j) = s 0 i j ∧ OK (qg γ) (s 0 i j)) ∧ (upd (g 20) (7 * (p - 1) + k) (I v) (7 * i + j) = ups s 1 (p - 1) (upd (s 1 (p - 1)) k (I v)) 1 i j ∧ OK (qg γ) (ups s 1 (p - 1) (upd (s 1 (p - 1)) k (I v)) 1 i j))
    refine ⟨⟨a1, a2⟩, ?_⟩
    by_cases e : i = p - 1
    · subst e
      rw [ups_eq]
      by_cases e2 : j = k
      · subst e2; rw [upd_eq, upd_eq]; exact ⟨rfl, OK_I hv (by omega)⟩
      · rw [upd_ne (by omega), upd_ne e2]; exact ⟨b1, b2⟩
    · rw [ups_ni e, upd_ne (by omega)]; exact ⟨b1, b2⟩
theorem rCz_give {s : jU} {t i k : Nat} {v : Int32} (h : rCz s t) (hk : k < t) : rCz (ups s 0 i (upd (s 0 i) k v)) t := by
  intro j hj k' h1 h2
  by_cases e : j = i
  · subst e; rw [ups_eq, upd_ne (by omega)]; exact h j hj k' h1 h2
  · rw [ups_ni e]; exact h j hj k' h1 h2
theorem fa_give {s : jU} {g : jS} (h : Rel s g) (x y z v : Int32) : FaV Rel [(xS, 1), (xA, 2)] s (f_SR_give x y z v s) (f_Mod_give x y z v g) := by
  obtain ⟨n, hn⟩ := Np_of h
  rcases h.2.2 with hR | ⟨st, r, γ, n', t, n0, t0, dm, em, b, hS⟩
  · right
    unfold f_SR_give f_Mod_give f_Room_takesCoefficients
    rw [hR.1, hR.2.2.2.1, if_pos (show I 0 = 0 from rfl), if_pos (show I 0 = 0 from rfl)]
    exact ⟨xS, 1, va_up g 0 (fun _ => 1), by simp, rfl, rfl, rfl, Rel_0 _ h⟩
  · have hen : n' = n := by
      have e := hS.1.2.2.2.1.1
      have e7 := hS.1.2.2.2.1.2.2.2.2.2.2
      have h7 := hn.2.1
      rw [hn.1, I_eq (by omega) (by omega)] at e; omega
    subst hen
    obtain ⟨⟨h22, h15, h16, h17, hst1, hst3⟩, ⟨h23, h18, hr⟩, ⟨h50, h53, h9, h10, hγ⟩, ⟨h20, h11, h21, h12, ht1, htn, h7⟩, -⟩ := hS.1
    by_cases htk : r = 0 ∨ st ≠ 1
    · -- coefficients are taken
      have hcl : f_Room_takesCoefficients s = some (I 1) := by
        unfold f_Room_takesCoefficients
        rw [h22, h23, if_neg (show ¬ I st = 0 by rw [I0, I_eq (by omega) (by omega)]; omega)]
        by_cases hr0 : r = 0
        · rw [if_pos (show I r = 0 by rw [hr0]; rfl)]; rfl
        · rw [if_neg (show ¬ I r = 0 by rw [I0, I_eq (by omega) (by omega)]; omega), if_neg (show ¬ I st = 1 by rw [I1, I_eq (by omega) (by omega)]; omega)]; rfl
      have hm : ∀ A : Option Int32, ∀ F : Int32 → Option jS, (Option.bind (if g 15 0 = 0 then some 1 else if g 18 0 ≤ 0 then A else if ¬ g 16 0 = 0 then A else if ¬ g 17 0 = 0 then A else some 1) F) = Option.bind A F := fun A F => by
        rw [h15, h16, h17, h18, if_neg (show ¬ I 1 = 0 by decide)]
        by_cases hr0 : r = 0
        · rw [if_pos (show I r ≤ 0 by rw [hr0]; decide)]
        · rw [if_neg (show ¬ I r ≤ 0 by rw [I0, I_le (by omega) (by omega)]; omega)]
          have hs1 : st ≠ 1 := by omega
          match st, hst1, hst3, hs1 with
          | 2, _, _, _ => rfl
          | 3, _, _, _ => rfl
      unfold FaV f_SR_give f_Mod_give
      rw [hcl, hm, h12, Option.bind_some, if_pos (show ¬ I 1 = 0 by decide)]
      rcases party_or hn x with ⟨p, rfl, h1, h2, hc, hmm⟩ | ⟨hc, hmm⟩
      · rw [hc, hmm, Option.bind_some, if_neg (show ¬ I 1 = 0 by decide)]
        rcases coef_or h21 (by omega) y with ⟨k, rfl, hk, hy1, hy2, hc2⟩ | ⟨hy, hc2⟩
        · rw [hc2, if_neg hy1, if_neg hy2]
          rcases which_or z with ⟨w, rfl, hw, hz1, hz2, hc3⟩ | ⟨hz, hc3⟩
          · left
            rw [hc3, if_neg hz1, if_pos hz2]
            have hq := qg_b γ
            obtain ⟨u, hu, f1, f2⟩ := fmod_spec v hq
            have hk7 : jin (I k) 7 := by rw [I_jin (by omega)]; omega
            refine ⟨ups s (0 + w) (p - 1) (upd (s (0 + w) (p - 1)) k (I u)), va_up (va_up g 0 (fun _ => 0)) (19 + w) (upd (va_up g 0 (fun _ => 0) (19 + w)) (7 * (p - 1) + k) (I u)), ?_, ?_, ?_, ?_⟩
            · unfold f_Room_setCoefficient
              simp only [jtry]
              rw [jidx_P (by omega), Option.bind_some, jidx_I hw (by omega), Option.bind_some, h53, fnum_q hγ, fsz_q hγ, f1, Option.bind_some, if_pos hk7, I_cl (by omega)]; rfl
            · simp only [Option.bind_some, jlet]
              rw [if_pos (show va_up g 0 (fun _ => (0 : Int32)) 0 0 ≤ 0 from le00)]
              have e10 : va_up g 0 (fun _ => (0 : Int32)) 10 0 = I (qg γ) := h10
              rw [e10, if_pos (show ¬ I (qg γ) = 0 by rw [I0, I_eq (by omega) (by omega)]; omega), f2, Option.bind_some, ix7 h1]
              have hj49 : jin (I (7 * (p - 1) + k)) 49 := by rw [I_jin (by omega)]; omega
              rw [if_pos hj49, I_cl (by omega)]
              match w, hw with
              | 0, _ => rw [if_neg (show ¬ ¬ I 0 = 0 from fun e => e rfl), if_pos hj49]; rfl
              | 1, _ => rw [if_pos (show ¬ I 1 = 0 by decide)]; rfl
            · match w, hw with | 0, _ => rfl | 1, _ => rfl
            · have hco := give_co (s := s) (g := va_up g 0 (fun _ => 0)) hq ⟨h1, by omega⟩ (show k < 7 by omega) hw hu hS.2.1
              obtain ⟨hP, hT, -⟩ := h
              obtain ⟨y1, y2, y3, y4, y5⟩ := hS.1.2.2.2.2
              match w, hw with
              | 0, _ => exact ⟨hP, hT, Or.inr ⟨st, r, γ, n', t, n0, t0, dm, em, b, ⟨hS.1.1, hS.1.2.1, hS.1.2.2.1, hS.1.2.2.2.1, y1, y2, y3, y4, rCz_give y5 hk⟩, hco, hS.2.2⟩⟩
              | 1, _ => exact ⟨hP, hT, Or.inr ⟨st, r, γ, n', t, n0, t0, dm, em, b, hS.1, hco, hS.2.2⟩⟩
          · right
            rw [hc3]
            have hin : (if z < 0 then some (2 : Int32) else if z ≤ 1 then some 0 else some 2) = some 2 := by
              rcases hz with hz | ⟨hz1, hz2⟩
              · rw [if_pos hz]
              · rw [if_neg hz1, if_neg hz2]
            rw [hin, Option.bind_some]
            exact ⟨xA, 2, va_up g 0 (fun _ => 2), by simp, rfl, rfl, rfl, Rel_0 _ h⟩
        · right
          rw [hc2]
          have hin : ∀ B : Option Int32, (if y < 0 then some (2 : Int32) else if I t ≤ y then some 2 else B) = some 2 := fun B => by
            rcases hy with hz | ⟨hz1, hz2⟩
            · rw [if_pos hz]
            · rw [if_neg hz1, if_pos hz2]
          rw [hin, Option.bind_some]
          exact ⟨xA, 2, va_up g 0 (fun _ => 2), by simp, rfl, rfl, rfl, Rel_0 _ h⟩
      · right
        rw [hc, hmm, Option.bind_some, if_pos (show I 0 = 0 from rfl), Option.bind_some]
        exact ⟨xA, 2, va_up g 0 (fun _ => 2), by simp, rfl, rfl, rfl, Rel_0 _ h⟩
    · right
      have hs1 : st = 1 := by omega
      have hr0 : r ≠ 0 := by omega
      unfold f_SR_give f_Mod_give f_Room_takesCoefficients
      rw [h15, h16, h17, h18, h22, h23, if_neg (show ¬ I st = 0 by rw [I0, I_eq (by omega) (by omega)]; omega), if_neg (show ¬ I r = 0 by rw [I0, I_eq (by omega) (by omega)]; omega), if_pos (show I st = 1 by rw [hs1]; rfl), if_neg (show ¬ I 1 = 0 by decide), if_neg (show ¬ I r ≤ 0 by rw [I0, I_le (by omega) (by omega)]; omega), hs1]
      exact ⟨xS, 1, va_up g 0 (fun _ => 1), by simp, rfl, rfl, rfl, Rel_0 _ h⟩

/-! ===== fault, crash ===== -/
theorem before_or {s : jU} {g : jS} (h : Rel s g) : (f_SR_needBeforeRounds s = some (.inr ()) ∧ g 15 0 = I 1 ∧ g 18 0 = I 0) ∨ (f_SR_needBeforeRounds s = some (.inl xS) ∧ ∀ (A : Option Int32), (if g 15 0 = 0 then some 1 else if g 18 0 ≤ 0 then A else some 1) = some 1) := by
  unfold f_SR_needBeforeRounds f_Room_isBeforeRounds
  rcases h.2.2 with hR | ⟨st, r, γ, n', t, n0, t0, dm, em, b, hS⟩
  · right
    rw [hR.1, hR.2.2.2.1]
    exact ⟨rfl, fun A => rfl⟩
  · obtain ⟨⟨h22, h15, -, -, hst1, hst3⟩, ⟨h23, h18, hr⟩, -⟩ := hS.1
    rw [h22, h23, h15, h18, if_neg (show ¬ I st = 0 by rw [I0, I_eq (by omega) (by omega)]; omega)]
    by_cases hr0 : r = 0
    · left
      subst hr0
      exact ⟨rfl, rfl, rfl⟩
    · right
      rw [if_pos (show ¬ I r = 0 by rw [I0, I_eq (by omega) (by omega)]; omega)]
      refine ⟨rfl, fun A => ?_⟩
      rw [if_neg (show ¬ I 1 = 0 by decide), if_neg (show ¬ I r ≤ 0 by rw [I0, I_le (by omega) (by omega)]; omega)]
theorem crash_cr {s : jU} {g : jS} {p w : Nat} (hw : w < 9) (h : rCr s g) : rCr (ups s 10 (p - 1) (fun _ => I w)) (va_up g 22 (upd (g 22) (p - 1) (I w))) := by
  intro i hi
  show upd (g 22) (p - 1) (I w) i = ups s 10 (p - 1) (fun _ => I w) 10 i 0 ∧ OK 9 (ups s 10 (p - 1) (fun _ => I w) 10 i 0)
  by_cases e : i = p - 1
  · subst e; rw [upd_eq, ups_eq]; exact ⟨rfl, OK_I hw (by omega)⟩
  · rw [upd_ne e, ups_ni e]; exact h i hi
theorem fa_crash {s : jU} {g : jS} (h : Rel s g) (x y : Int32) : FaV Rel [(xS, 1), (xA, 2)] s (f_SR_crash x y s) (f_Mod_crash x y g) := by
  obtain ⟨n, hn⟩ := Np_of h
  have h7 := hn.2.1
  have n2 : ¬ (2 : Int32) ≤ 0 := by decide
  unfold FaV f_SR_crash f_Mod_crash
  rcases before_or h with ⟨hb, h15, h18⟩ | ⟨hb, hm⟩
  · rw [hb, h15, h18, if_neg (show ¬ I 1 = 0 by decide), if_pos (show I 0 ≤ 0 by decide)]
    rcases party_or hn x with ⟨p, rfl, h1, h2, hc, hmm⟩ | ⟨hc, hmm⟩
    · rw [hc, hmm, Option.bind_some, if_neg (show ¬ I 1 = 0 by decide)]
      by_cases hok : ∃ w, y = I w ∧ 1 ≤ w ∧ w ≤ 8
      · obtain ⟨w, rfl, hw1, hw8⟩ := hok
        left
        rw [if_neg (show ¬ I w < 1 by rw [I1, I_lt (by omega) (by omega)]; omega), if_pos (show I w ≤ 8 by rw [I8, I_le (by omega) (by omega)]; omega), if_neg (show ¬ I w < 1 by rw [I1, I_lt (by omega) (by omega)]; omega)]
        rw [if_pos (show I w ≤ 8 by rw [I8, I_le (by omega) (by omega)]; omega)]
        obtain ⟨st, r, γ, t, n0, t0, dm, em, b, hS⟩ := Nr_of h hn (by omega)
        refine ⟨ups s 10 (p - 1) (fun _ => I w), va_up (va_up g 0 (fun _ => 0)) 22 (upd (g 22) (p - 1) (I w)), ?_, ?_, rfl, ?_⟩
        · unfold f_Room_setCrash
          rw [jidx_P (by omega)]; rfl
        · have hj7 : jin (I p - 1) 7 := by rw [I1, I_sub h1, I_jin (by omega)]; omega
          have hcl : (I p - 1).toNatClampNeg = p - 1 := by rw [I1, I_sub h1, I_cl (by omega)]
          simp only [Option.bind_some, jlet]
          rw [if_neg (show ¬ ¬ va_up g 0 (fun _ => (0 : Int32)) 0 0 = 0 from fun e => e rfl), if_pos hj7, hcl]; rfl
        · exact ⟨h.1, h.2.1, Or.inr ⟨st, r, γ, n, t, n0, t0, dm, em, b, hS.1, hS.2.1, hS.2.2.1, crash_cr (g := va_up g 0 (fun _ => 0)) (by omega) hS.2.2.2.1, hS.2.2.2.2⟩⟩
      · right
        refine ⟨xA, 2, va_up g 0 (fun _ => 2), by simp, ?_, ?_, rfl, Rel_0 _ h⟩
        · rcases I_cases y with hy | ⟨w, rfl, hw⟩
          · rw [if_pos (show y < 1 from ng_lt (n := 1) hy (by decide))]; rfl
          · by_cases hw1 : I w < 1
            · rw [if_pos hw1]; rfl
            · rw [if_neg hw1, if_neg (fun e => hok ⟨w, rfl, by rw [I1, I_lt (by omega) (by omega)] at hw1; omega, by rw [I8, I_le (by omega) (by omega)] at e; omega⟩)]; rfl
        · have e : (if y < 1 then some (2 : Int32) else if y ≤ 8 then some 0 else some 2) = some 2 := by
            rcases I_cases y with hy | ⟨w, rfl, hw⟩
            · rw [if_pos (show y < 1 from ng_lt (n := 1) hy (by decide))]
            · by_cases hw1 : I w < 1
              · rw [if_pos hw1]
              · rw [if_neg hw1, if_neg (fun e => hok ⟨w, rfl, by rw [I1, I_lt (by omega) (by omega)] at hw1; omega, by rw [I8, I_le (by omega) (by omega)] at e; omega⟩)]
          rw [e]; rfl
    · right
      rw [hc, hmm]
      exact ⟨xA, 2, _, by simp, rfl, rfl, rfl, Rel_0 _ h⟩
  · right
    rw [hb, hm]
    exact ⟨xS, 1, _, by simp, rfl, rfl, rfl, Rel_0 _ h⟩
theorem fault_fa {s : jU} {g : jS} {p k v u : Nat} (hp : 1 ≤ p ∧ p ≤ 7) (hk : k < 7) (hv : v < 8) (h1 : (k = 1 ∨ k = 2) → u = v ∧ v ≠ p) (h2 : ¬ (k = 1 ∨ k = 2) → u = 1 ∧ v ≠ 0) (h : rFa s g) : rFa (ups s 2 (p - 1) (upd (s 2 (p - 1)) k (I v))) (va_up g 21 (upd (g 21) (7 * k + (p - 1)) (I u))) := by
  intro i hi j hj
  show OK 8 (ups s 2 (p - 1) (upd (s 2 (p - 1)) k (I v)) 2 i j) ∧ ((j = 1 ∨ j = 2) → upd (g 21) (7 * k + (p - 1)) (I u) (7 * j + i) = ups s 2 (p - 1) (upd (s 2 (p - 1)) k (I v)) 2 i j ∧ ups s 2 (p - 1) (upd (s 2 (p - 1)) k (I v)) 2 i j ≠ I (i + 1)) ∧ (¬ (j = 1 ∨ j = 2) → upd (g 21) (7 * k + (p - 1)) (I u) (7 * j + i) = if ups s 2 (p - 1) (upd (s 2 (p - 1)) k (I v)) 2 i j = I 0 then I 0 else I 1)
  have := h i hi j hj
  by_cases e : i = p - 1
  · subst e
    rw [ups_eq]
    by_cases e2 : j = k
    · subst e2
      rw [upd_eq, upd_eq]
      refine ⟨OK_I hv (by omega), fun hc => ?_, fun hc => ?_⟩
      · obtain ⟨rfl, hne⟩ := h1 hc
        exact ⟨rfl, by rw [Ne, I_eq (by omega) (by omega)]; omega⟩
      · obtain ⟨rfl, hne⟩ := h2 hc
        rw [if_neg (by rw [I_eq (by omega) (by omega)]; exact hne)]
    · rw [upd_ne e2, upd_ne (by omega)]; exact this
  · rw [ups_ni e, upd_ne (by omega)]; exact this
theorem rRo_f {s : jU} {g : jS} {st r γ n t n0 t0 dm em b i : Nat} {a c d : Nat → Int32} (hr : r = 0) (h : rRo s g st r γ n t n0 t0 dm em b) : rRo (ups s 2 i a) (va_up (va_up g 0 c) 21 d) st r γ n t n0 t0 dm em b := by
  refine ⟨h.1, h.2.1, h.2.2.1, fun e => ?_⟩
  obtain ⟨a1, a2, a3, a4, a5, a6, -, a8, a9, a10, a11, a12⟩ := h.2.2.2 e
  exact ⟨a1, a2, a3, a4, a5, a6, fun e => by omega, a8, a9, a10, a11, a12⟩
theorem fa_fault {s : jU} {g : jS} (h : Rel s g) (x y z : Int32) : FaV Rel [(xS, 1), (xA, 2)] s (f_SR_fault x y z s) (f_Mod_fault x y z g) := by
  obtain ⟨n, hn⟩ := Np_of h
  have h7 := hn.2.1
  unfold FaV f_SR_fault f_Mod_fault
  have hcon : ∃ v : Nat, (v = 1 ∧ (y = I 1 ∨ y = I 2) ∨ v = 0 ∧ ¬ (y = I 1 ∨ y = I 2)) ∧ f_Party_concernsAnother y = some (I v) ∧ (if y = 1 then some (1 : Int32) else if ¬ y = 2 then some 0 else some 1) = some (I v) := by
    unfold f_Party_concernsAnother
    by_cases e1 : y = I 1
    · refine ⟨1, Or.inl ⟨rfl, Or.inl e1⟩, ?_⟩
      rw [if_pos (show y = 1 from e1)]; exact ⟨rfl, rfl⟩
    · by_cases e2 : y = I 2
      · refine ⟨1, Or.inl ⟨rfl, Or.inr e2⟩, ?_⟩
        rw [if_neg (show ¬ y = 1 from e1), if_neg (show ¬ ¬ y = 2 from fun e => e e2)]; exact ⟨rfl, rfl⟩
      · refine ⟨0, Or.inr ⟨rfl, by simp [e1, e2]⟩, ?_⟩
        rw [if_neg (show ¬ y = 1 from e1), if_pos (show ¬ y = 2 from e2)]; exact ⟨rfl, rfl⟩
  obtain ⟨c, hcv, hcc, hcm⟩ := hcon
  rw [hcm, Option.bind_some]
  rcases before_or h with ⟨hb, h15, h18⟩ | ⟨hb, hm⟩
  · rw [hb, h15, h18, if_neg (show ¬ I 1 = 0 by decide), if_pos (show I 0 ≤ 0 by decide)]
    simp only [jtry]
    by_cases hok : ∃ k, y = I k ∧ k < 7
    · obtain ⟨k, rfl, hk⟩ := hok
      have y0 : ¬ I k < 0 := by rw [I0, I_lt (by omega) (by omega)]; omega
      have y6 : ¬ 6 < I k := by rw [I6, I_lt (by omega) (by omega)]; omega
      have y7 : I k < 7 := by rw [I7, I_lt (by omega) (by omega)]; omega
      rw [if_neg y0, if_neg y6]
      rcases party_or hn x with ⟨p, rfl, h1, h2, hc, hmm⟩ | ⟨hc, hmm⟩
      · rw [hc, hmm, Option.bind_some, if_neg (show ¬ I 1 = 0 by decide), if_neg y0, if_pos y7, hcc, Option.bind_some]
        have hk7 : jin (I k) 7 := by rw [I_jin (by omega)]; omega
        have hj49 : jin (I (7 * k + (p - 1))) 49 := by rw [I_jin (by omega)]; omega
        have hset : ∀ v : Int32, f_Room_setFault (I p) (I k) v s = some (ups s 2 (p - 1) (upd (s 2 (p - 1)) k v)) := fun v => by
          unfold f_Room_setFault
          rw [jidx_P (by omega), Option.bind_some, if_pos hk7, I_cl (by omega)]; rfl
        obtain ⟨st, r, γ, t, n0, t0, dm, em, b, hS⟩ := Nr_of h hn (by omega)
        have hr0 : r = 0 := by
          have e := hS.1.2.1.2.1
          have e7 := hS.1.2.1.2.2
          rw [h18, I_eq (by omega) (by omega)] at e; omega
        rcases hcv with ⟨rfl, hk12⟩ | ⟨rfl, hk12⟩
        · rw [I_eq (by omega) (by omega), I_eq (by omega) (by omega)] at hk12
          rw [if_pos (show ¬ I 1 = 0 by decide), if_neg (show ¬ I 1 = 0 by decide)]
          rcases party_or hn z with ⟨j, rfl, h3, h4, hc2, hmm2⟩ | ⟨hc2, hmm2⟩
          · rw [hc2, hmm2, Option.bind_some, if_neg (show ¬ I 1 = 0 by decide)]
            by_cases hjp : j = p
            · right
              subst hjp
              simp only [if_neg (show ¬ ¬ I j = I j from fun e => e rfl)]
              exact ⟨xA, 2, _, by simp, rfl, rfl, rfl, Rel_0 _ h⟩
            · left
              have e1 : ¬ I p = I j := by rw [I_eq (by omega) (by omega)]; omega
              have e2 : ¬ I j = I p := by rw [I_eq (by omega) (by omega)]; omega
              simp only [hset]
              rw [if_pos e1, if_pos e2]
              refine ⟨ups s 2 (p - 1) (upd (s 2 (p - 1)) k (I j)), va_up (va_up g 0 (fun _ => 0)) 21 (upd (g 21) (7 * k + (p - 1)) (I j)), rfl, ?_, rfl, ?_⟩
              · simp only [Option.bind_some, jlet]
                rw [if_neg (show ¬ ¬ va_up g 0 (fun _ => (0 : Int32)) 0 0 = 0 from fun e => e rfl), if_neg (show ¬ I 1 = 0 by decide), ix9 h1, I_cl (by omega)]
                simp only [Option.bind_some]
                rw [if_pos hj49]; rfl
              · exact ⟨h.1, h.2.1, Or.inr ⟨st, r, γ, n, t, n0, t0, dm, em, b, hS.1, hS.2.1, fault_fa (g := va_up g 0 (fun _ => 0)) ⟨h1, by omega⟩ hk (by omega) (fun _ => ⟨rfl, hjp⟩) (fun e => absurd hk12 e) hS.2.2.1, hS.2.2.2.1, hS.2.2.2.2.1, hS.2.2.2.2.2.1, hS.2.2.2.2.2.2.1, hS.2.2.2.2.2.2.2.1, hS.2.2.2.2.2.2.2.2.1, hS.2.2.2.2.2.2.2.2.2.1, hS.2.2.2.2.2.2.2.2.2.2.1, rRo_f hr0 hS.2.2.2.2.2.2.2.2.2.2.2⟩⟩
          · right
            rw [hc2, hmm2]
            exact ⟨xA, 2, _, by simp, rfl, rfl, rfl, Rel_0 _ h⟩
        · rw [I_eq (by omega) (by omega), I_eq (by omega) (by omega)] at hk12
          left
          rw [if_neg (show ¬ ¬ I 0 = 0 from fun e => e rfl), if_pos (show I 0 = 0 from rfl)]
          simp only [hset]
          refine ⟨ups s 2 (p - 1) (upd (s 2 (p - 1)) k (I p)), va_up (va_up g 0 (fun _ => 0)) 21 (upd (g 21) (7 * k + (p - 1)) (I 1)), rfl, ?_, rfl, ?_⟩
          · simp only [Option.bind_some, jlet]
            rw [if_neg (show ¬ ¬ va_up g 0 (fun _ => (0 : Int32)) 0 0 = 0 from fun e => e rfl), if_pos (show I 0 = 0 from rfl), ix9 h1, I_cl (by omega)]
            simp only [Option.bind_some]
            rw [if_pos hj49]; rfl
          · exact ⟨h.1, h.2.1, Or.inr ⟨st, r, γ, n, t, n0, t0, dm, em, b, hS.1, hS.2.1, fault_fa (g := va_up g 0 (fun _ => 0)) ⟨h1, by omega⟩ hk (by omega) (fun e => absurd e hk12) (fun _ => ⟨rfl, by omega⟩) hS.2.2.1, hS.2.2.2.1, hS.2.2.2.2.1, hS.2.2.2.2.2.1, hS.2.2.2.2.2.2.1, hS.2.2.2.2.2.2.2.1, hS.2.2.2.2.2.2.2.2.1, hS.2.2.2.2.2.2.2.2.2.1, hS.2.2.2.2.2.2.2.2.2.2.1, rRo_f hr0 hS.2.2.2.2.2.2.2.2.2.2.2⟩⟩
      · right
        rw [hc, hmm, if_neg y0]
        exact ⟨xA, 2, va_up g 0 (fun _ => 2), by simp, rfl, rfl, rfl, Rel_0 _ h⟩
    · right
      have e : ∀ A : Option Int32, (if y < 0 then some (2 : Int32) else if 6 < y then some 2 else A) = some 2 := fun A => by
        rcases I_cases y with hy | ⟨w, rfl, hw⟩
        · rw [if_pos hy]
        · rw [if_neg (show ¬ I w < 0 by rw [I0, I_lt (by omega) (by omega)]; omega), if_pos (show 6 < I w by
            rw [I6, I_lt (by omega) (by omega)]
            false_or_by_contra
            exact hok ⟨w, rfl, by omega⟩)]
      rw [e]
      refine ⟨xA, 2, va_up g 0 (fun _ => 2), by simp, ?_, rfl, rfl, Rel_0 _ h⟩
      rcases party_or hn x with ⟨p, rfl, h1, h2, hc, hmm⟩ | ⟨hc, hmm⟩
      · rw [hc]
        rcases I_cases y with hy | ⟨w, rfl, hw⟩
        · simp only [if_pos hy]
        · simp only [if_neg (show ¬ I w < 0 by rw [I0, I_lt (by omega) (by omega)]; omega)]
          rw [if_neg (fun e => hok ⟨w, rfl, by rw [I7, I_lt (by omega) (by omega)] at e; exact e⟩)]
      · rw [hc]
  · right
    rw [hb, hm]
    exact ⟨xS, 1, _, by simp, rfl, rfl, rfl, Rel_0 _ h⟩

/-! ===== frames ===== -/
def FrC (l : List Nat) (s s' : jU) : Prop := ∀ K, K ∉ l → s' K = s K
def FrM (l : List Nat) (g g' : jS) : Prop := ∀ K, K ∉ l → g' K = g K
theorem FrC.rf {l : List Nat} {s : jU} : FrC l s s := fun _ _ => rfl
theorem FrM.rf {l : List Nat} {g : jS} : FrM l g g := fun _ _ => rfl
theorem FrC.tr {l l1 l2 : List Nat} {s s1 s2 : jU} (h1 : FrC l1 s s1) (h2 : FrC l2 s1 s2) (a : ∀ K ∈ l1, K ∈ l) (b : ∀ K ∈ l2, K ∈ l) : FrC l s s2 := fun K hK => by
  rw [h2 K (fun h => hK (b K h)), h1 K (fun h => hK (a K h))]
theorem FrM.tr {l l1 l2 : List Nat} {s s1 s2 : jS} (h1 : FrM l1 s s1) (h2 : FrM l2 s1 s2) (a : ∀ K ∈ l1, K ∈ l) (b : ∀ K ∈ l2, K ∈ l) : FrM l s s2 := fun K hK => by
  rw [h2 K (fun h => hK (b K h)), h1 K (fun h => hK (a K h))]
theorem FrC.up {l : List Nat} {s : jU} {K i : Nat} {a : Nat → Int32} (h : K ∈ l) : FrC l s (ups s K i a) := fun K' hK => ups_nK (fun e => hK (e ▸ h))
theorem FrM.up {l : List Nat} {g : jS} {K : Nat} {a : Nat → Int32} (h : K ∈ l) : FrM l g (va_up g K a) := fun K' hK => vu_ne (fun e => hK (e ▸ h))
/-! ===== the board ===== -/
theorem nb_b0 : ∀ i < 64, ∀ j < 64, (I (64 * i + j)).toInt8.toInt32.toInt8.toInt32 &&& 255 = I ((64 * i + j) % 256) := by decide +kernel
theorem nb_b (v : Nat) (hv : v < 4096) : (I v).toInt8.toInt32.toInt8.toInt32 &&& 255 = I (v % 256) := by
  have h := nb_b0 (v / 64) (by omega) (v % 64) (by omega)
  rwa [show 64 * (v / 64) + v % 64 = v from by omega] at h
theorem nb_h0 : ∀ i < 64, ∀ j < 64, I (64 * i + j) >>> (8 &&& 31) = I ((64 * i + j) / 256) := by decide +kernel
theorem nb_h (v : Nat) (hv : v < 4096) : I v >>> (8 &&& 31) = I (v / 256) := by
  have h := nb_h0 (v / 64) (by omega) (v % 64) (by omega)
  rwa [show 64 * (v / 64) + v % 64 = v from by omega] at h
theorem nb_l0 : ∀ i < 64, ∀ j < 64, I (64 * i + j) &&& 255 = I ((64 * i + j) % 256) := by decide +kernel
theorem nb_l (v : Nat) (hv : v < 4096) : I v &&& 255 = I (v % 256) := by
  have h := nb_l0 (v / 64) (by omega) (v % 64) (by omega)
  rwa [show 64 * (v / 64) + v % 64 = v from by omega] at h
theorem wbyte {s : jU} {g : jS} {b v : Nat} (h : rBo s g b) (hb : b < 1050) (hv : v < 4096) : ∃ s' g', f_Board_writeByte (I v) s = some s' ∧ f_Mod_show (I (v % 256)) g = some g' ∧ rBo s' g' (b + 1) ∧ FrC [40, 41] s s' ∧ FrM [40, 41] g g' := by
  obtain ⟨h41, h40, -, hby⟩ := h
  refine ⟨ups (ups s 40 0 (upd (s 40 0) b (I v).toInt8.toInt32.toInt8.toInt32)) 41 0 (fun _ => s 41 0 0 + 1), va_up (va_up g 41 (upd (g 41) b (I (v % 256)))) 40 (fun _ => g 40 0 + 1), ?_, ?_, ?_, ?_, ?_⟩
  · unfold f_Board_writeByte
    rw [h41, if_neg (show ¬ 1050 ≤ I b by rw [show (1050 : Int32) = I 1050 from rfl, I_le (by omega) (by omega)]; omega), if_pos (by rw [I_jin (by omega)]; omega), I_cl (by omega), ← h41]
    rfl
  · unfold f_Mod_show
    rw [h40, if_pos (by rw [I_jin (by omega)]; omega), I_cl (by omega), ← h40]
    rfl
  · refine ⟨?_, ?_, by omega, ?_⟩
    · show s 41 0 0 + 1 = _
      rw [h41]; exact I_add b 1
    · show g 40 0 + 1 = _
      rw [h40]; exact I_add b 1
    · intro j hj
      show upd (g 41) b (I (v % 256)) j = upd (s 40 0) b _ j &&& 255
      by_cases e : j = b
      · subst e; rw [upd_eq, upd_eq, nb_b v hv]
      · rw [upd_ne e, upd_ne e]; exact hby j (by omega)
  · exact (FrC.up (l := [40, 41]) (by simp)).tr (FrC.up (l := [40, 41]) (by simp)) (fun _ h => h) (fun _ h => h)
  · exact (FrM.up (l := [40, 41]) (by simp)).tr (FrM.up (l := [40, 41]) (by simp)) (fun _ h => h) (fun _ h => h)
theorem wone {s : jU} {g : jS} {b v : Nat} (h : rBo s g b) (hb : b < 1050) (hv : v < 256) : ∃ s' g', f_Board_writeByte (I v) s = some s' ∧ f_Mod_show (I v) g = some g' ∧ rBo s' g' (b + 1) ∧ FrC [40, 41] s s' ∧ FrM [40, 41] g g' := by
  have := wbyte (v := v) h hb (by omega)
  rwa [Nat.mod_eq_of_lt hv] at this
theorem wpair {s : jU} {g : jS} {b v : Nat} (h : rBo s g b) (hb : b + 1 < 1050) (hv : v < 4096) : ∃ s' g', f_Board_writePair (I v) s = some s' ∧ f_Mod_showTwo (I v) g = some g' ∧ rBo s' g' (b + 2) ∧ FrC [40, 41] s s' ∧ FrM [40, 41] g g' := by
  obtain ⟨s1, g1, e1, e2, h1, f1, f2⟩ := wone (v := v / 256) h (by omega) (by omega)
  obtain ⟨s2, g2, e3, e4, h2, f3, f4⟩ := wbyte (v := v) h1 (by omega) hv
  refine ⟨s2, g2, ?_, ?_, h2, f1.tr f3 (fun _ h => h) (fun _ h => h), f2.tr f4 (fun _ h => h) (fun _ h => h)⟩
  · unfold f_Board_writePair
    rw [nb_h v hv, e1, Option.bind_some, e3]; rfl
  · unfold f_Mod_showTwo
    rw [nb_h v hv, e2, Option.bind_some, nb_l v hv, e4]; rfl
theorem wtwo {s : jU} {g : jS} {b v w : Nat} (h : rBo s g b) (hb : b + 1 < 1050) (hv : v < 256) (hw : w < 256) : ∃ s' g', f_Board_write (I v) (I w) s = some s' ∧ (Option.bind (f_Mod_show (I v) g) fun g1 => f_Mod_show (I w) g1) = some g' ∧ rBo s' g' (b + 2) ∧ FrC [40, 41] s s' ∧ FrM [40, 41] g g' := by
  obtain ⟨s1, g1, e1, e2, h1, f1, f2⟩ := wone (v := v) h (by omega) hv
  obtain ⟨s2, g2, e3, e4, h2, f3, f4⟩ := wone (v := w) h1 (by omega) hw
  refine ⟨s2, g2, ?_, ?_, h2, f1.tr f3 (fun _ h => h) (fun _ h => h), f2.tr f4 (fun _ h => h) (fun _ h => h)⟩
  · unfold f_Board_write
    rw [e1, Option.bind_some, e3]; rfl
  · rw [e2, Option.bind_some, e4]
theorem wnums {s : jU} {g : jS} {b c p o u v : Nat} (h : rBo s g b) (hb : b + 7 ≤ 1050) (hc : c < 256) (hp : p < 256) (ho : o < 256) (hu : u < 4096) (hv : v < 4096) : ∃ s1 s' g', f_Board_write (I c) (I p) s = some s1 ∧ f_Room_writeNumbers (I o) (I u) (I v) s1 = some s' ∧ f_Mod_showNumbers (I c) (I p) (I o) (I u) (I v) g = some g' ∧ rBo s' g' (b + 7) ∧ FrC [40, 41] s s' ∧ FrC [40, 41] s s1 ∧ FrM [40, 41] g g' := by
  obtain ⟨s1, g1, e1, e2, h1, f1, k1⟩ := wtwo h (by omega) hc hp
  obtain ⟨s2, g2, e3, e4, h2, f2, k2⟩ := wone h1 (by omega) ho
  obtain ⟨s3, g3, e5, e6, h3, f3, k3⟩ := wpair h2 (by omega) hu
  obtain ⟨s4, g4, e7, e8, h4, f4, k4⟩ := wpair h3 (by omega) hv
  have T : ∀ K ∈ [40, 41], K ∈ [40, 41] := fun _ h => h
  refine ⟨s1, s4, g4, e1, ?_, ?_, h4, ((f1.tr f2 T T).tr f3 T T).tr f4 T T, f1, ((k1.tr k2 T T).tr k3 T T).tr k4 T T⟩
  · unfold f_Room_writeNumbers
    rw [e3, Option.bind_some, e5, Option.bind_some, e7]; rfl
  · unfold f_Mod_showNumbers
    have : ∀ F : jS → Option jS, (Option.bind (f_Mod_show (I c) g) fun s1 => Option.bind (f_Mod_show (I p) s1) F) = F g1 := fun F => by
      rw [← Option.bind_assoc, e2, Option.bind_some]
    rw [this, e4, Option.bind_some, e6, Option.bind_some, e8]; rfl

/-! ===== what stays in the rounds ===== -/
def Cx (s : jU) (g : jS) (γ n t : Nat) : Prop := (s 50 0 0 = I γ ∧ s 53 0 0 = I (1 + γ) ∧ g 9 0 = I γ ∧ g 10 0 = I (qg γ) ∧ γ < 2) ∧ (s 20 0 0 = I n ∧ g 11 0 = I n ∧ s 21 0 0 = I t ∧ g 12 0 = I t ∧ 1 ≤ t ∧ t ≤ n ∧ n ≤ 7) ∧ RelT g ∧ rCo s g γ ∧ rFa s g ∧ rCr s g
theorem Cx.fr {s s' : jU} {g g' : jS} {γ n t : Nat} {l m : List Nat} (h : Cx s g γ n t) (a : FrC l s s') (b : FrM m g g') (hl : ∀ K ∈ [0, 1, 2, 10, 20, 21, 50, 53], K ∉ l) (hm : ∀ K ∈ [6, 7, 8, 9, 10, 11, 12, 19, 20, 21, 22, 42, 43, 45], K ∉ m) : Cx s' g' γ n t := by
  have a' : ∀ K ∈ [0, 1, 2, 10, 20, 21, 50, 53], s' K = s K := fun K hK => a K (hl K hK)
  have b' : ∀ K ∈ [6, 7, 8, 9, 10, 11, 12, 19, 20, 21, 22, 42, 43, 45], g' K = g K := fun K hK => b K (hm K hK)
  unfold Cx RelT rCo rFa rCr at *
  rw [a' 50 (by simp), a' 53 (by simp), a' 20 (by simp), a' 21 (by simp), a' 0 (by simp), a' 1 (by simp), a' 2 (by simp), a' 10 (by simp), b' 6 (by simp), b' 7 (by simp), b' 8 (by simp), b' 9 (by simp), b' 10 (by simp), b' 11 (by simp), b' 12 (by simp), b' 19 (by simp), b' 20 (by simp), b' 21 (by simp), b' 22 (by simp), b' 42 (by simp), b' 43 (by simp), b' 45 (by simp)]
  exact h
/-! ===== round 1 ===== -/
def cmt (s : jU) (γ i k : Nat) : Nat := (U (s 0 i k) + hh γ * U (s 1 i k)) % qg γ
theorem deal_a {s : jU} {g : jS} {γ n t p b : Nat} (hC : Cx s g γ n t) (hp : 1 ≤ p ∧ p ≤ 7) (hB : rBo s g b) (hb : b + 2 * t ≤ 1050) : ∃ s' g', L_Room_deal_22 (p - 1) jF 0 s = some (I t, s') ∧ L_Mod_deal_57 (I p) jF 0 g = some (I t, g') ∧ rBo s' g' (b + 2 * t) ∧ FrC [3, 40, 41] s s' ∧ FrM [34, 40, 41] g g' ∧ (∀ i, i ≠ p - 1 → s' 3 i = s 3 i) ∧ (∀ k < t, s' 3 (p - 1) k = el γ (cmt s γ (p - 1) k) ∧ g' 34 (7 * (p - 1) + k) = I (cmt s γ (p - 1) k)) ∧ (∀ k, t ≤ k → s' 3 (p - 1) k = s 3 (p - 1) k) ∧ (∀ j, (j < 7 * (p - 1) ∨ 7 * (p - 1) + 7 ≤ j) → g' 34 j = g 34 j) := by
  obtain ⟨⟨-, -, -, -, hγ⟩, ⟨-, -, -, -, ht1, htn, hn7⟩, -⟩ := id hC
  have hq := qg_b γ
  obtain ⟨s', g', e1, e2, c1, c2, c3, c4, c5, c6, c7⟩ := loop2 (L_Room_deal_22 (p - 1)) (L_Mod_deal_57 (I p)) t (fun k s1 g1 => rBo s1 g1 (b + 2 * k) ∧ FrC [3, 40, 41] s s1 ∧ FrM [34, 40, 41] g g1 ∧ (∀ i, i ≠ p - 1 → s1 3 i = s 3 i) ∧ (∀ k' < k, s1 3 (p - 1) k' = el γ (cmt s γ (p - 1) k') ∧ g1 34 (7 * (p - 1) + k') = I (cmt s γ (p - 1) k')) ∧ (∀ k', k ≤ k' → s1 3 (p - 1) k' = s 3 (p - 1) k') ∧ (∀ j, (j < 7 * (p - 1) ∨ 7 * (p - 1) + 7 ≤ j) → g1 34 j = g 34 j))
    (fun a m k s1 g1 hk hP => by
      obtain ⟨d1, d2, d3, d4, d5, d6, d7⟩ := hP
      obtain ⟨⟨h50, -, h9, h10, -⟩, ⟨-, -, h21, h12, -⟩, hT, -⟩ := hC.fr d2 d3 (by decide) (by decide)
      obtain ⟨⟨x1, x2⟩, ⟨y1, y2⟩⟩ := hC.2.2.2.1 (p - 1) (by omega) k (by omega)
      have x3 := x2.2
      have y3 := y2.2
      have z0 : s1 0 = s 0 := d2 0 (by decide)
      have z1 : s1 1 = s 1 := d2 1 (by decide)
      have w0 : g1 19 = g 19 := d3 19 (by decide)
      have w1 : g1 20 = g 20 := d3 20 (by decide)
      have hk7 : jin (I k) 7 := by rw [I_jin (by omega)]; omega
      have hk49 : jin (I (7 * (p - 1) + k)) 49 := by rw [I_jin (by omega)]; omega
      have hcm : cmt s γ (p - 1) k < qg γ := Nat.mod_lt _ (by omega)
      have hel := el_lt hγ hcm
      have hbd := hh_b γ
      have hpr : hh γ * U (s 1 (p - 1) k) < 1019 * 1019 := Nat.mul_lt_mul_of_lt_of_lt (by omega) (by omega)
      have hBo : rBo (ups s1 3 (p - 1) (upd (s1 3 (p - 1)) k (el γ (cmt s γ (p - 1) k)))) (va_up g1 34 (upd (g1 34) (7 * (p - 1) + k) (I (cmt s γ (p - 1) k)))) (b + 2 * k) := d1
      obtain ⟨s2, g2, f1, f2, f3, f4, f5⟩ := wpair hBo (by omega) hel.2
      rw [← hel.1] at f1 f2
      refine ⟨s2, g2, ⟨f3, ?_, ?_, ?_, ?_, ?_, ?_⟩, ?_, ?_⟩
      · exact (d2.tr (FrC.up (l := [3]) (by simp)) (fun _ h => h) (by decide)).tr f4 (fun _ h => h) (by decide)
      · exact (d3.tr (FrM.up (l := [34]) (by simp)) (fun _ h => h) (by decide)).tr f5 (fun _ h => h) (by decide)
      · intro i hi
        rw [f4 3 (by decide), ups_ni hi]; exact d4 i hi
      · intro k' hk'
        rw [f4 3 (by decide), f5 34 (by decide), ups_eq, vu_eq]
        by_cases e : k' = k
        · subst e; rw [upd_eq, upd_eq]; exact ⟨rfl, rfl⟩
        · rw [upd_ne e, upd_ne (by omega)]; exact d5 k' (by omega)
      · intro k' hk'
        rw [f4 3 (by decide), ups_eq, upd_ne (by omega)]; exact d6 k' (by omega)
      · intro j hj
        rw [f5 34 (by decide), vu_eq, upd_ne (by omega)]; exact d7 j hj
      · show L_Room_deal_22 (p - 1) (a + 1) (I k) s1 = _
        rw [L_Room_deal_22, h21, if_neg (show ¬ I t ≤ I k by rw [I_le (by omega) (by omega)]; omega), if_pos hk7, if_pos hk7, I_cl (by omega), z0, z1, x2.1, y2.1, h50, gnum_q hγ, el_commit hγ (by omega) (by omega), Option.bind_some, if_pos hk7]
        simp only [jlet]
        show (f_Board_writePair (el γ (cmt s γ (p - 1) k)) (ups s1 3 (p - 1) (upd (s1 3 (p - 1)) k (el γ (cmt s γ (p - 1) k))))).bind _ = _
        rw [f1, Option.bind_some, I1, I_add]
      · show L_Mod_deal_57 (I p) (m + 1) (I k) g1 = _
        rw [L_Mod_deal_57, h12, if_neg (show ¬ I t ≤ I k by rw [I_le (by omega) (by omega)]; omega)]
        simp only [jlet, ix7 hp.1]
        rw [if_pos hk49, h9, if_pos (by rw [I_jin (by omega)]; omega), if_pos hk49, h10, if_pos (show ¬ I (qg γ) = 0 by rw [I0, I_eq (by omega) (by omega)]; omega), if_pos hk49, I_cl (show 7 * (p - 1) + k < 2147483648 by omega), I_cl (show γ < 2147483648 by omega), w0, w1, x1, y1, hT.2.2.1 γ hγ, x2.1, y2.1, I_mul, I_add, I_rem (by omega) (by omega), if_pos hk49]
        show (f_Mod_element (upd (g1 34) (7 * (p - 1) + k) (I (cmt s γ (p - 1) k)) (7 * (p - 1) + k)) (va_up g1 34 (upd (g1 34) (7 * (p - 1) + k) (I (cmt s γ (p - 1) k))))).bind _ = _
        rw [upd_eq, mel_spec (g := va_up g1 34 _) hT hγ h9 hcm, Option.bind_some]
        show (f_Mod_showTwo _ (va_up g1 34 (upd (g1 34) (7 * (p - 1) + k) (I (cmt s γ (p - 1) k))))).bind _ = _
        rw [f2, Option.bind_some, I1, I_add])
    (fun a m s1 g1 hP => by
      obtain ⟨d1, d2, d3, d4, d5, d6, d7⟩ := hP
      obtain ⟨-, ⟨-, -, h21, h12, -⟩, -⟩ := hC.fr d2 d3 (by decide) (by decide)
      rw [L_Room_deal_22, L_Mod_deal_57, h21, h12, if_pos (Int32.le_refl _), if_pos (Int32.le_refl _)]
      exact ⟨rfl, rfl⟩) t 0 jF jF s g (by omega) (by unfold jF; omega) (by unfold jF; omega) ⟨hB, FrC.rf, FrM.rf, fun _ _ => rfl, fun k hk => by omega, fun _ _ => rfl, fun _ _ => rfl⟩
  exact ⟨s', g', e1, e2, c1, c2, c3, c4, c5, c6, c7⟩
/-- the numbers that party i deals to j -/
def dlt (s : jU) (γ t w i j : Nat) : Nat := hs (fun k => U (s w i k)) j t % qg γ
def bad (s : jU) (i j : Nat) : Nat := if s 2 i 1 = I j then 1 else 0
theorem mis_spec {s : jU} {g : jS} {p k : Nat} (h : rFa s g) (hp : 1 ≤ p ∧ p ≤ 7) (hk : k < 7) (hk12 : ¬ (k = 1 ∨ k = 2)) : f_Mod_is (I p) (I k) g = some (I (if s 2 (p - 1) k = I 0 then 0 else 1)) := by
  unfold f_Mod_is
  rw [ix9 hp.1, if_pos (by rw [I_jin (by omega)]; omega), I_cl (by omega), (h (p - 1) (by omega) k hk).2.2 hk12]
  by_cases e : s 2 (p - 1) k = I 0
  · rw [if_pos e, if_pos e]; rfl
  · rw [if_neg e, if_neg e]; rfl
theorem chas_spec {s : jU} {i k : Nat} (hk : k < 7) : f_Party_has i (I k) s = some (I (if s 2 i k = I 0 then 0 else 1)) := by
  unfold f_Party_has
  rw [if_pos (by rw [I_jin (by omega)]; omega), I_cl (by omega)]
  by_cases e : s 2 i k = I 0
  · rw [if_pos (show s 2 i k = 0 from e), if_pos e]; rfl
  · rw [if_neg (show ¬ s 2 i k = 0 from e), if_neg e]; rfl
theorem deal_b {s : jU} {g : jS} {γ n t p : Nat} (hC : Cx s g γ n t) (hp : 1 ≤ p ∧ p ≤ n) : ∃ s' g', L_Room_deal_82 (I p) (p - 1) jF 1 s = some (I (n + 1), s') ∧ L_Mod_deal_131 (I p) jF 1 g = some (I (n + 1), g') ∧ FrC [5, 6] s s' ∧ FrM [30, 31] g g' ∧ (∀ j < n, (s' 5 j p = I ((dlt s γ t 0 (p - 1) (j + 1) + bad s (p - 1) (j + 1)) % qg γ) ∧ g' 30 (7 * (p - 1) + j) = s' 5 j p) ∧ (s' 6 j p = I (dlt s γ t 1 (p - 1) (j + 1)) ∧ g' 31 (7 * (p - 1) + j) = s' 6 j p)) ∧ (∀ j i, ¬ (j < n ∧ i = p) → s' 5 j i = s 5 j i ∧ s' 6 j i = s 6 j i) ∧ (∀ j, (j < 7 * (p - 1) ∨ 7 * (p - 1) + 7 ≤ j) → g' 30 j = g 30 j ∧ g' 31 j = g 31 j) := by
  obtain ⟨⟨-, -, -, -, hγ⟩, ⟨-, -, -, -, ht1, htn, hn7⟩, -⟩ := id hC
  have hq := qg_b γ
  obtain ⟨s', g', e1, e2, -, c1, c2, c3, c4, c5⟩ := loop2 (L_Room_deal_82 (I p) (p - 1)) (L_Mod_deal_131 (I p)) (n + 1) (fun k s1 g1 => 1 ≤ k ∧ FrC [5, 6] s s1 ∧ FrM [30, 31] g g1 ∧ (∀ j, j + 1 < k → (s1 5 j p = I ((dlt s γ t 0 (p - 1) (j + 1) + bad s (p - 1) (j + 1)) % qg γ) ∧ g1 30 (7 * (p - 1) + j) = s1 5 j p) ∧ (s1 6 j p = I (dlt s γ t 1 (p - 1) (j + 1)) ∧ g1 31 (7 * (p - 1) + j) = s1 6 j p)) ∧ (∀ j i, ¬ (j + 1 < k ∧ i = p) → s1 5 j i = s 5 j i ∧ s1 6 j i = s 6 j i) ∧ (∀ j, (j < 7 * (p - 1) ∨ 7 * (p - 1) + 7 ≤ j) → g1 30 j = g 30 j ∧ g1 31 j = g 31 j))
    (fun a m k s1 g1 hk hP => by
      obtain ⟨d0, d2, d3, d5, d6, d7⟩ := hP
      have hC1 := hC.fr d2 d3 (by decide) (by decide)
      obtain ⟨⟨h50, h53, h9, h10, -⟩, ⟨h20, h11, h21, h12, -⟩, hT, hCo, hFa, -⟩ := id hC1
      have z0 : s1 0 = s 0 := d2 0 (by decide)
      have z1 : s1 1 = s 1 := d2 1 (by decide)
      have z2 : s1 2 = s 2 := d2 2 (by decide)
      have hdl : ∀ w, dlt s γ t w (p - 1) k < qg γ := fun w => Nat.mod_lt _ (by omega)
      have hl0 := hdl 0
      have hl1 := hdl 1
      have hbad : bad s (p - 1) k ≤ 1 := by unfold bad; split <;> omega
      have cd : ∀ s2 : jU, s2 53 0 0 = I (1 + γ) → s2 21 0 0 = I t → ∀ w < 2, s2 w = s w → f_Room_dealtNumber (I p) (I k) (I w) s2 = some (I (dlt s γ t w (p - 1) k)) := fun s2 u1 u2 w hw u3 => by
        refine cdealt_spec hγ u1 u2 (by omega) ⟨hp.1, by omega⟩ ht1 (by omega) hw (fun k' hk' => ?_)
        rw [u3]
        obtain ⟨⟨-, x2⟩, ⟨-, y2⟩⟩ := hC.2.2.2.1 (p - 1) (by omega) k' (by omega)
        match w, hw with
        | 0, _ => exact ⟨x2.1, x2.2⟩
        | 1, _ => exact ⟨y2.1, y2.2⟩
      have fF := (hFa (p - 1) (by omega) 1 (by omega)).2.1 (Or.inl rfl)
      have hp8 : jin (I p) 8 := by rw [I_jin (by omega)]; omega
      have hk49 : jin (I (7 * (p - 1) + (k - 1))) 49 := by rw [I_jin (by omega)]; omega
      have hqn : ¬ I (qg γ) = 0 := by rw [I0, I_eq (by omega) (by omega)]; omega
      refine ⟨ups (ups s1 5 (k - 1) (upd (s1 5 (k - 1)) p (I ((dlt s γ t 0 (p - 1) k + bad s (p - 1) k) % qg γ)))) 6 (k - 1) (upd (s1 6 (k - 1)) p (I (dlt s γ t 1 (p - 1) k))), va_up (va_up g1 30 (upd (g1 30) (7 * (p - 1) + (k - 1)) (I ((dlt s γ t 0 (p - 1) k + bad s (p - 1) k) % qg γ)))) 31 (upd (g1 31) (7 * (p - 1) + (k - 1)) (I (dlt s γ t 1 (p - 1) k))), ⟨by omega, ?_, ?_, ?_, ?_, ?_⟩, ?_, ?_⟩
      · exact (d2.tr (FrC.up (l := [5]) (by simp)) (fun _ h => h) (by decide)).tr (FrC.up (l := [6]) (by simp)) (fun _ h => h) (by decide)
      · exact (d3.tr (FrM.up (l := [30]) (by simp)) (fun _ h => h) (by decide)).tr (FrM.up (l := [31]) (by simp)) (fun _ h => h) (by decide)
      · intro j hj
        rw [ups_nK (show 5 ≠ 6 by decide), vu_ne (show 30 ≠ 31 by decide), vu_eq, vu_eq]
        by_cases e : j = k - 1
        · subst e
          rw [ups_eq, ups_eq, upd_eq, upd_eq, upd_eq, upd_eq, show k - 1 + 1 = k from by omega]
          exact ⟨⟨rfl, rfl⟩, rfl, rfl⟩
        · rw [ups_ni e, ups_ni e, ups_ni e, upd_ne (by omega), upd_ne (by omega)]
          exact d5 j (by omega)
      · intro j i hji
        rw [ups_nK (show 5 ≠ 6 by decide)]
        by_cases e : j = k - 1
        · subst e
          rw [ups_eq, ups_eq, upd_ne (by omega), upd_ne (by omega)]
          exact d6 (k - 1) i (by omega)
        · rw [ups_ni e, ups_ni e, ups_ni e]
          exact d6 j i (by omega)
      · intro j hj
        rw [vu_ne (show 30 ≠ 31 by decide), vu_eq, vu_eq, upd_ne (by omega), upd_ne (by omega)]
        exact d7 j hj
      · show L_Room_deal_82 (I p) (p - 1) (a + 1) (I k) s1 = _
        rw [L_Room_deal_82, h20, if_neg (show ¬ I n < I k by rw [I_lt (by omega) (by omega)]; omega), show f_Room_dealtNumber (I p) (I k) 0 s1 = _ from cd s1 h53 h21 0 (by omega) z0, Option.bind_some, if_pos (show jin 1 7 by decide), jidx_P (by omega)]
        have hsel : (Option.bind (if ¬ s1 2 (p - 1) (1 : Int32).toNatClampNeg = I k then some (0 : Int32) else some 1) fun x40 => Option.bind (some (k - 1)) fun k43 => Option.bind (if x40 = 0 then some (I (dlt s γ t 0 (p - 1) k)) else Option.bind (F_plus (fnum (s1 53 0 0)) (I (dlt s γ t 0 (p - 1) k)) 1) fun x47 => some x47) fun x48 => some (k43, x48)) = some (k - 1, I ((dlt s γ t 0 (p - 1) k + bad s (p - 1) k) % qg γ)) := by
          rw [h53, fnum_q hγ, I1, F_pl hγ (by omega) (by omega), show (I 1).toNatClampNeg = 1 from rfl, z2]
          unfold bad
          by_cases e : s 2 (p - 1) 1 = I k
          · rw [if_neg (fun h => h e), if_pos e]; rfl
          · rw [if_pos e, if_neg e, Nat.mod_eq_of_lt (show dlt s γ t 0 (p - 1) k + 0 < qg γ from hl0)]; rfl
        have hsel2 : ∀ F : Nat → Int32 → Option (Int32 × jU), (Option.bind (if ¬ s1 2 (p - 1) (1 : Int32).toNatClampNeg = I k then some (0 : Int32) else some 1) fun x40 => Option.bind (some (k - 1)) fun k43 => Option.bind (if x40 = 0 then some (I (dlt s γ t 0 (p - 1) k)) else Option.bind (F_plus (fnum (s1 53 0 0)) (I (dlt s γ t 0 (p - 1) k)) 1) fun x47 => some x47) fun x48 => F k43 x48) = F (k - 1) (I ((dlt s γ t 0 (p - 1) k + bad s (p - 1) k) % qg γ)) := fun F => by
          have := congrArg (fun o => Option.bind o (fun z => F z.1 z.2)) hsel
          simp only [Option.bind_assoc, Option.bind_some] at this
          simpa only [Option.bind_some] using this
        rw [hsel2, if_pos hp8, I_cl (by omega)]
        simp only [jlet, Option.bind_some]
        rw [show f_Room_dealtNumber (I p) (I k) 1 _ = _ from cd _ (show ups s1 5 (k - 1) _ 53 0 0 = _ from h53) (show ups s1 5 (k - 1) _ 21 0 0 = _ from h21) 1 (by omega) (show ups s1 5 (k - 1) _ 1 = _ from z1), Option.bind_some, if_pos hp8, I1, I_add]
        rfl
      · show L_Mod_deal_131 (I p) (m + 1) (I k) g1 = _
        have mfx : ∀ g2 : jS, g2 10 0 = I (qg γ) → g2 12 0 = I t → g2 19 = g 19 → f_Mod_f (I p) (I k) g2 = some (I (dlt s γ t 0 (p - 1) k)) := fun g2 u1 u2 u3 => mf_spec u1 u2 hq (by omega) ⟨hp.1, by omega⟩ (by omega) (fun k' hk' => by
          obtain ⟨⟨x1, x2⟩, -⟩ := hC.2.2.2.1 (p - 1) (by omega) k' (by omega)
          rw [u3, x1]; exact ⟨x2.1, x2.2⟩)
        have mbx : ∀ g2 : jS, g2 10 0 = I (qg γ) → g2 12 0 = I t → g2 20 = g 20 → f_Mod_blind (I p) (I k) g2 = some (I (dlt s γ t 1 (p - 1) k)) := fun g2 u1 u2 u3 => mb_spec u1 u2 hq (by omega) ⟨hp.1, by omega⟩ (by omega) (fun k' hk' => by
          obtain ⟨-, ⟨x1, x2⟩⟩ := hC.2.2.2.1 (p - 1) (by omega) k' (by omega)
          rw [u3, x1]; exact ⟨x2.1, x2.2⟩)
        have hbd : (if ¬ g1 21 ((7 + I p) - 1).toNatClampNeg = I k then some (0 : Int32) else some 1) = some (I (bad s (p - 1) k)) := by
          rw [I7, I_add, I1, I_sub (by omega), I_cl (by omega), show 7 + p - 1 = 7 * 1 + (p - 1) from by omega, fF.1, z2]
          unfold bad
          by_cases e : s 2 (p - 1) 1 = I k
          · rw [if_neg (fun h => h e), if_pos e]
          · rw [if_pos e, if_neg e]; rfl
        have hi49 : jin ((7 + I p) - 1) 49 := by rw [I7, I_add, I1, I_sub (by omega), I_jin (by omega)]; omega
        rw [L_Mod_deal_131, h11, if_neg (show ¬ I n < I k by rw [I_lt (by omega) (by omega)]; omega)]
        simp only [f_Mod_at, ix8 hp.1 d0, Option.bind_some, jlet]
        rw [mfx g1 h10 h12 (d3 19 (by decide)), Option.bind_some, if_pos hi49, hbd, Option.bind_some, h10, if_pos hqn, if_pos hk49, I_add, I_rem (by omega) (by omega), I_cl (by omega)]
        rw [mbx _ (show va_up g1 30 _ 10 0 = _ from h10) (show va_up g1 30 _ 12 0 = _ from h12) (show va_up g1 30 _ 20 = _ from d3 20 (by decide)), Option.bind_some, if_pos hk49, I1, I_add]
        rfl)
    (fun a m s1 g1 hP => by
      obtain ⟨d0, d2, d3, d5, d6, d7⟩ := hP
      obtain ⟨-, ⟨h20, h11, -⟩, -⟩ := hC.fr d2 d3 (by decide) (by decide)
      have hlt : I n < I (n + 1) := by rw [I_lt (by omega) (by omega)]; omega
      rw [L_Room_deal_82, L_Mod_deal_131, h20, h11, if_pos hlt, if_pos hlt]
      exact ⟨rfl, rfl⟩) n 1 jF jF s g (by omega) (by unfold jF; omega) (by unfold jF; omega) ⟨by omega, FrC.rf, FrM.rf, fun k hk => by omega, fun _ _ _ => ⟨rfl, rfl⟩, fun _ _ => ⟨rfl, rfl⟩⟩
  exact ⟨s', g', e1, e2, c1, c2, fun j hj => c3 j (by omega), fun j i hji => c4 j i (by omega), c5⟩

/-- what the rounds have shown: the dealers -/
def rDe (s : jU) (g : jS) (γ n t dm : Nat) : Prop := g 23 0 = I dm ∧ rEl s g 3 34 12 γ t dm ∧ rNu s g 5 30 γ n dm ∧ rNu s g 6 31 γ n dm
def rFi (s : jU) (g : jS) (γ n t dm : Nat) : Prop := ∀ i < 7, bt dm (i + 1) = true → ∀ j < n, s 2 i 1 ≠ I (j + 1) → (U (s 5 j (i + 1)) + hh γ * U (s 6 j (i + 1))) % qg γ = hs (fun k => U (g 34 (7 * i + k))) (j + 1) t % qg γ
theorem bt_self {m i : Nat} : bt (m ||| 2 ^ (i - 1)) i = true := by rw [bt_or]; simp
theorem bt_oth {m i j : Nat} (hi : 1 ≤ i) (hj : 1 ≤ j) (h : j ≠ i) : bt (m ||| 2 ^ (i - 1)) j = bt m j := by
  rw [bt_or]; simp; omega
theorem deal_one {s : jU} {g : jS} {γ n t p b dm : Nat} (hC : Cx s g γ n t) (hp : 1 ≤ p ∧ p ≤ n) (hB : rBo s g b) (hb : b + 2 + 2 * t ≤ 1050) (hD : rDe s g γ n t dm) (hF : rFi s g γ n t dm) : ∃ s' g', f_Room_deal (I p) s = some s' ∧ (jlet (va_up g 23 (fun _ => (g 23 0) ||| (1 <<< ((I p - 1) &&& 31)))) fun s10 =>
            Option.bind (f_Mod_show 1 s10) fun s12 =>
            Option.bind (f_Mod_show (I p) s12) fun s14 =>
            Option.bind (L_Mod_deal_57 (I p) jF 0 s14) fun (x35, s36) =>
            Option.bind (L_Mod_deal_131 (I p) jF 1 s36) fun (x63, s64) =>
            some s64) = some g' ∧ rBo s' g' (b + 2 + 2 * t) ∧ rDe s' g' γ n t (dm ||| 2 ^ (p - 1)) ∧ rFi s' g' γ n t (dm ||| 2 ^ (p - 1)) ∧ FrC [3, 5, 6, 12, 40, 41] s s' ∧ FrM [23, 30, 31, 34, 40, 41] g g' := by
  obtain ⟨⟨h50, h53, h9, h10, hγ⟩, ⟨h20, h11, h21, h12, ht1, htn, hn7⟩, hT, hCo, -⟩ := id hC
  have hq := qg_b γ
  obtain ⟨hD1, ⟨hD2, hD3, hD4⟩, hD5, hD6⟩ := id hD
  have hB1 : rBo (ups s 12 (p - 1) (fun _ => 1)) (va_up g 23 (fun _ => I (dm ||| 2 ^ (p - 1)))) b := hB
  obtain ⟨s1, g1, a1, a2, a3, a4, a5⟩ := wtwo (v := 1) (w := p) hB1 (by omega) (by omega) (by omega)
  have fA : FrC [12, 40, 41] s s1 := (FrC.up (l := [12]) (by simp)).tr a4 (by decide) (by decide)
  have fB : FrM [23, 40, 41] g g1 := (FrM.up (l := [23]) (by simp)).tr a5 (by decide) (by decide)
  have hC1 := hC.fr fA fB (by decide) (by decide)
  obtain ⟨s2, g2, b1, b2, b3, b4, b5, b6, b7, b8, b9⟩ := deal_a (p := p) hC1 ⟨hp.1, by omega⟩ a3 (by omega)
  have hC2 := hC1.fr b4 b5 (by decide) (by decide)
  obtain ⟨s3, g3, c1, c2, c3, c4, c5, c6, c7⟩ := deal_b (p := p) hC2 hp
  have f0 : s1 0 = s 0 := fA 0 (by decide)
  have f1 : s1 1 = s 1 := fA 1 (by decide)
  have f2 : s2 0 = s 0 := (b4 0 (by decide)).trans f0
  have f3 : s2 1 = s 1 := (b4 1 (by decide)).trans f1
  have f4 : s2 2 = s 2 := (b4 2 (by decide)).trans (fA 2 (by decide))
  have hcm : ∀ k, cmt s1 γ (p - 1) k = cmt s γ (p - 1) k := fun k => by unfold cmt; rw [f0, f1]
  have hdl : ∀ w < 2, ∀ j, dlt s2 γ t w (p - 1) j = dlt s γ t w (p - 1) j := fun w hw j => by
    unfold dlt
    match w, hw with
    | 0, _ => rw [f2]
    | 1, _ => rw [f3]
  have hbd : ∀ j, bad s2 (p - 1) j = bad s (p - 1) j := fun j => by unfold bad; rw [f4]
  have hcl : ∀ k, cmt s γ (p - 1) k < qg γ := fun k => Nat.mod_lt _ (by omega)
  have hl : ∀ w j, dlt s γ t w (p - 1) j < qg γ := fun w j => Nat.mod_lt _ (by omega)
  have hl2 : ∀ j, (dlt s γ t 0 (p - 1) j + bad s (p - 1) j) % qg γ < qg γ := fun j => Nat.mod_lt _ (by omega)
  -- the new cells
  have N3 : ∀ k < t, s3 3 (p - 1) k = el γ (cmt s γ (p - 1) k) ∧ g3 34 (7 * (p - 1) + k) = I (cmt s γ (p - 1) k) := fun k hk => by
    rw [c3 3 (by decide), c4 34 (by decide), ← hcm]; exact b7 k hk
  have N5 : ∀ j < n, (s3 5 j p = I ((dlt s γ t 0 (p - 1) (j + 1) + bad s (p - 1) (j + 1)) % qg γ) ∧ g3 30 (7 * (p - 1) + j) = s3 5 j p) ∧ (s3 6 j p = I (dlt s γ t 1 (p - 1) (j + 1)) ∧ g3 31 (7 * (p - 1) + j) = s3 6 j p) := fun j hj => by
    have := c5 j hj
    rwa [hdl 0 (by omega), hdl 1 (by omega), hbd] at this
  have O3 : ∀ i < 7, i ≠ p - 1 → s3 3 i = s 3 i ∧ (∀ k < 7, g3 34 (7 * i + k) = g 34 (7 * i + k)) := fun i hi hne => by
    rw [c3 3 (by decide), b6 i hne, fA 3 (by decide)]
    refine ⟨rfl, fun k hk => ?_⟩
    rw [c4 34 (by decide), b9 _ (by omega), fB 34 (by decide)]
  have O3' : ∀ k, t ≤ k → s3 3 (p - 1) k = s 3 (p - 1) k := fun k hk => by
    rw [c3 3 (by decide), b8 k hk, fA 3 (by decide)]
  have O5 : ∀ j i, ¬ (j < n ∧ i = p) → s3 5 j i = s 5 j i ∧ s3 6 j i = s 6 j i := fun j i h => by
    obtain ⟨u, v⟩ := c6 j i h
    rw [u, v, b4 5 (by decide), b4 6 (by decide), fA 5 (by decide), fA 6 (by decide)]; exact ⟨rfl, rfl⟩
  have OG : ∀ i < 7, i ≠ p - 1 → ∀ j < 7, g3 30 (7 * i + j) = g 30 (7 * i + j) ∧ g3 31 (7 * i + j) = g 31 (7 * i + j) := fun i hi hne j hj => by
    obtain ⟨u, v⟩ := c7 (7 * i + j) (by omega)
    rw [u, v, b5 30 (by decide), b5 31 (by decide), fB 30 (by decide), fB 31 (by decide)]; exact ⟨rfl, rfl⟩
  have S12 : ∀ i, s3 12 i 0 = ups s 12 (p - 1) (fun _ => 1) 12 i 0 := fun i => by
    rw [c3 12 (by decide), b4 12 (by decide), a4 12 (by decide)]
  have G23 : g3 23 0 = I (dm ||| 2 ^ (p - 1)) := by
    rw [c4 23 (by decide), b5 23 (by decide), a5 23 (by decide)]; rfl
  have S2 : s3 2 = s 2 := (c3 2 (by decide)).trans f4
  refine ⟨s3, g3, ?_, ?_, ?_, ⟨G23, ⟨or_lt hD2 (by omega), ?_, ?_⟩, ?_, ?_⟩, ?_, ?_, ?_⟩
  · unfold f_Room_deal
    rw [jidx_P (by omega), Option.bind_some]
    simp only [jlet]
    rw [show f_Board_write 1 (I p) _ = _ from a1, Option.bind_some, b1, Option.bind_some]
    show Option.bind (L_Room_deal_82 (I p) (p - 1) jF 1 s2) _ = _
    rw [c1]; rfl
  · simp only [jlet]
    rw [hD1, B_bit hp.1 (by omega), B_or dm hD2 _ (p2_lt (by omega))]
    rw [← Option.bind_assoc, show ((f_Mod_show 1 (va_up g 23 fun x => I (dm ||| 2 ^ (p - 1)))).bind fun x => f_Mod_show (I p) x) = _ from a2, Option.bind_some, b2, Option.bind_some]
    show Option.bind (L_Mod_deal_131 (I p) jF 1 g2) _ = _
    rw [c2]; rfl
  · have : rBo s2 g2 (b + 2 + 2 * t) := b3
    unfold rBo at *
    rw [c3 41 (by decide), c3 40 (by decide), c4 40 (by decide), c4 41 (by decide)]; exact this
  · intro i hi
    rw [S12]
    by_cases e : i = p - 1
    · subst e
      rw [ups_eq, show p - 1 + 1 = p from by omega, bt_self]; rfl
    · rw [ups_ni e, hD3 i hi, bt_oth hp.1 (by omega) (by omega)]
  · intro i hi k hk
    by_cases e : i = p - 1
    · subst e
      rw [show p - 1 + 1 = p from by omega, bt_self]
      refine ⟨fun _ hkt => ?_, fun h => ?_⟩
      · obtain ⟨u, v⟩ := N3 k hkt
        have := hcl k
        rw [u, v, U_I (by omega)]
        exact ⟨rfl, OK_I (hcl k) (by omega)⟩
      · rw [O3' k (by simp at h; exact h)]
        have := (hD4 (p - 1) (by omega) k hk).2
        exact this (fun h' => h ⟨rfl, h'.2⟩)
    · rw [bt_oth hp.1 (by omega) (by omega)]
      obtain ⟨u, v⟩ := O3 i hi e
      rw [u, v k hk]; exact hD4 i hi k hk
  · intro i hi j hj
    by_cases e : i = p - 1
    · subst e
      rw [show p - 1 + 1 = p from by omega, bt_self]
      refine ⟨fun _ hjn => ?_, fun h => ?_⟩
      · obtain ⟨⟨u, v⟩, -⟩ := N5 j hjn
        rw [v, u]; exact ⟨rfl, OK_I (hl2 _) (by omega)⟩
      · rw [(O5 j p (by simp at h; omega)).1]
        have := (hD5 (p - 1) (by omega) j hj).2
        rw [show p - 1 + 1 = p from by omega] at this
        exact this (fun h' => h ⟨rfl, h'.2⟩)
    · rw [bt_oth hp.1 (by omega) (by omega), (OG i hi e j hj).1, (O5 j (i + 1) (by omega)).1]
      exact hD5 i hi j hj
  · intro i hi j hj
    by_cases e : i = p - 1
    · subst e
      rw [show p - 1 + 1 = p from by omega, bt_self]
      refine ⟨fun _ hjn => ?_, fun h => ?_⟩
      · obtain ⟨-, ⟨u, v⟩⟩ := N5 j hjn
        rw [v, u]; exact ⟨rfl, OK_I (hl 1 _) (by omega)⟩
      · rw [(O5 j p (by simp at h; omega)).2]
        have := (hD6 (p - 1) (by omega) j hj).2
        rw [show p - 1 + 1 = p from by omega] at this
        exact this (fun h' => h ⟨rfl, h'.2⟩)
    · rw [bt_oth hp.1 (by omega) (by omega), (OG i hi e j hj).2, (O5 j (i + 1) (by omega)).2]
      exact hD6 i hi j hj
  · intro i hi hbt j hj hne
    rw [S2] at hne
    by_cases e : i = p - 1
    · subst e
      rw [show p - 1 + 1 = p from by omega]
      obtain ⟨⟨u, -⟩, ⟨v, -⟩⟩ := N5 j hj
      have h1 := hl 0 (j + 1)
      have h2 := hl 1 (j + 1)
      have hb0 : bad s (p - 1) (j + 1) = 0 := by unfold bad; rw [if_neg hne]
      rw [u, v, hb0, Nat.add_zero, Nat.mod_eq_of_lt h1, U_I (by omega), U_I (by omega)]
      have e1 : hs (fun k => U (g3 34 (7 * (p - 1) + k))) (j + 1) t = hs (cmt s γ (p - 1)) (j + 1) t := hs_congr t (fun k hk => by
        have := hcl k
        rw [(N3 k hk).2, U_I (by omega)])
      rw [e1]
      have e2 : Cg (qg γ) (hs (cmt s γ (p - 1)) (j + 1) t) (hs (fun k => U (s 0 (p - 1) k) + hh γ * U (s 1 (p - 1) k)) (j + 1) t) := hs_cg _ _ (fun k _ => Cg.md _ _)
      have e3 : Cg (qg γ) (dlt s γ t 0 (p - 1) (j + 1) + hh γ * dlt s γ t 1 (p - 1) (j + 1)) (hs (fun k => U (s 0 (p - 1) k)) (j + 1) t + hh γ * hs (fun k => U (s 1 (p - 1) k)) (j + 1) t) := (Cg.md _ _).ad (Cg.rf.ml (Cg.md _ _))
      rw [hs_add] at e2
      exact e3.tr e2.sy
    · rw [bt_oth hp.1 (by omega) (by omega)] at hbt
      have := hF i hi hbt j hj hne
      rw [(O5 j (i + 1) (by omega)).1, (O5 j (i + 1) (by omega)).2, this]
      exact congrArg (· % qg γ) (hs_congr t (fun k hk => by rw [(O3 i hi e).2 k (by omega)]))
  · exact (fA.tr b4 (by decide) (by decide) (l := [3, 12, 40, 41])).tr c3 (by decide) (by decide)
  · exact (fB.tr b5 (by decide) (by decide) (l := [23, 34, 40, 41])).tr c4 (by decide) (by decide)

theorem cwork {s : jU} {g : jS} (h : rCr s g) {p r : Nat} (hp : 1 ≤ p ∧ p ≤ 7) (hr : r < 8) : f_Party_worksIn (p - 1) (I r) s = some (I (if r < U (s 10 (p - 1) 0) then 1 else 0)) ∧ f_Mod_works (I p) (I r) g = some (I (if r < U (s 10 (p - 1) 0) then 1 else 0)) := by
  obtain ⟨h1, h2⟩ := h (p - 1) (by omega)
  refine ⟨cworks_spec h2.1 h2.2 (by omega), ?_⟩
  rw [mworks_spec hp.1 hp.2 (h1.trans h2.1) h2.2 (by omega)]
  have : U (s 10 (p - 1) 0) = 8 ∨ r < U (s 10 (p - 1) 0) ↔ r < U (s 10 (p - 1) 0) := by omega
  by_cases e : r < U (s 10 (p - 1) 0)
  · rw [if_pos (Or.inr e), if_pos e]
  · rw [if_neg (fun x => e (this.mp x)), if_neg e]
theorem round1 {s : jU} {g : jS} {γ n t : Nat} (hC : Cx s g γ n t) (hB : rBo s g 0) (hD : rDe s g γ n t 0) : ∃ s' g' dm b, f_Room_dealAll s = some s' ∧ f_Mod_deal g = some g' ∧ rBo s' g' b ∧ b ≤ 112 ∧ rDe s' g' γ n t dm ∧ rFi s' g' γ n t dm ∧ FrC [3, 5, 6, 12, 40, 41] s s' ∧ FrM [23, 30, 31, 34, 40, 41] g g' := by
  obtain ⟨⟨-, -, -, -, hγ⟩, ⟨-, -, -, -, ht1, htn, hn7⟩, -⟩ := id hC
  obtain ⟨s', g', e1, e2, -, c1, c2, dm, b, c3, c4, c5, c6⟩ := loop2 L_Room_dealAll_2 L_Mod_deal_2 (n + 1) (fun k s1 g1 => 1 ≤ k ∧ FrC [3, 5, 6, 12, 40, 41] s s1 ∧ FrM [23, 30, 31, 34, 40, 41] g g1 ∧ ∃ dm b, rBo s1 g1 b ∧ b ≤ 16 * (k - 1) ∧ rDe s1 g1 γ n t dm ∧ rFi s1 g1 γ n t dm)
    (fun a m k s1 g1 hk hP => by
      obtain ⟨d0, d1, d2, dm, b, d3, d4, d5, d6⟩ := hP
      have hC1 := hC.fr d1 d2 (by decide) (by decide)
      obtain ⟨-, ⟨h20, h11, -⟩, -, -, hFa, hCr⟩ := id hC1
      obtain ⟨w1, w2⟩ := cwork hCr (p := k) (r := 1) ⟨d0, by omega⟩ (by omega)
      have hlt : ¬ I n < I k := by rw [I_lt (by omega) (by omega)]; omega
      have ec : L_Room_dealAll_2 (a + 1) (I k) s1 = Option.bind (if I (if 1 < U (s1 10 (k - 1) 0) then 1 else 0) = 0 then some s1 else if ¬ I (if s1 2 (k - 1) 0 = I 0 then 0 else 1) = 0 then some s1 else Option.bind (f_Room_deal (I k) s1) fun s24 => some s24) fun s25 => L_Room_dealAll_2 a (I (k + 1)) s25 := by
        rw [L_Room_dealAll_2, h20, if_neg hlt, jidx_P ⟨d0, by omega⟩, Option.bind_some, show f_Party_worksIn (k - 1) 1 s1 = _ from w1, Option.bind_some, Option.bind_some, show f_Party_has (k - 1) 0 s1 = _ from chas_spec (k := 0) (by omega), Option.bind_some]
        simp only [jlet, I1, I_add]
      have em : L_Mod_deal_2 (m + 1) (I k) g1 = Option.bind (if I (if 1 < U (s1 10 (k - 1) 0) then 1 else 0) = 0 then some g1 else if I (if s1 2 (k - 1) 0 = I 0 then 0 else 1) = 0 then (jlet (va_up g1 23 (fun _ => (g1 23 0) ||| (1 <<< ((I k - 1) &&& 31)))) fun s10 =>
            Option.bind (f_Mod_show 1 s10) fun s12 =>
            Option.bind (f_Mod_show (I k) s12) fun s14 =>
            Option.bind (L_Mod_deal_57 (I k) jF 0 s14) fun (x35, s36) =>
            Option.bind (L_Mod_deal_131 (I k) jF 1 s36) fun (x63, s64) =>
            some s64) else some g1) fun s25 => L_Mod_deal_2 m (I (k + 1)) s25 := by
        rw [L_Mod_deal_2, h11, if_neg hlt, show f_Mod_works (I k) 1 g1 = _ from w2, Option.bind_some, show f_Mod_is (I k) 0 g1 = _ from mis_spec (k := 0) hFa ⟨d0, by omega⟩ (by omega) (by omega), Option.bind_some]
        rw [show I k + 1 = I (k + 1) from I_add k 1]
        rfl
      rw [ec, em]
      by_cases hw : 1 < U (s1 10 (k - 1) 0)
      · rw [if_pos hw, if_neg (show ¬ I 1 = 0 by decide), if_neg (show ¬ I 1 = 0 by decide)]
        by_cases hs0 : s1 2 (k - 1) 0 = I 0
        · rw [if_pos hs0, if_neg (show ¬ ¬ I 0 = 0 from fun e => e rfl), if_pos (show I 0 = 0 from rfl)]
          obtain ⟨s3, g3, x1, x2, x3, x4, x5, x6, x7⟩ := deal_one (p := k) hC1 ⟨d0, by omega⟩ d3 (by omega) d5 d6
          refine ⟨s3, g3, ⟨by omega, d1.tr x6 (fun _ h => h) (fun _ h => h), d2.tr x7 (fun _ h => h) (fun _ h => h), _, _, x3, by omega, x4, x5⟩, ?_, ?_⟩
          · rw [x1]; rfl
          · rw [x2]; rfl
        · rw [if_neg hs0, if_pos (show ¬ I 1 = 0 by decide), if_neg (show ¬ I 1 = 0 by decide)]
          exact ⟨s1, g1, ⟨by omega, d1, d2, dm, b, d3, by omega, d5, d6⟩, rfl, rfl⟩
      · rw [if_neg hw, if_pos (show I 0 = 0 from rfl), if_pos (show I 0 = 0 from rfl)]
        exact ⟨s1, g1, ⟨by omega, d1, d2, dm, b, d3, by omega, d5, d6⟩, rfl, rfl⟩)
    (fun a m s1 g1 hP => by
      obtain ⟨d0, d1, d2, -⟩ := hP
      obtain ⟨-, ⟨h20, h11, -⟩, -⟩ := hC.fr d1 d2 (by decide) (by decide)
      have hlt : I n < I (n + 1) := by rw [I_lt (by omega) (by omega)]; omega
      rw [L_Room_dealAll_2, L_Mod_deal_2, h20, h11, if_pos hlt, if_pos hlt]
      exact ⟨rfl, rfl⟩) n 1 jF jF s g (by omega) (by unfold jF; omega) (by unfold jF; omega) ⟨by omega, FrC.rf, FrM.rf, 0, 0, hB, by omega, hD, fun i _ h => (bt0f h).elim⟩
  refine ⟨s', g', dm, b, ?_, ?_, c3, by omega, c5, c6, c1, c2⟩
  · unfold f_Room_dealAll
    rw [show L_Room_dealAll_2 jF 1 s = _ from e1]; rfl
  · unfold f_Mod_deal
    rw [show L_Mod_deal_2 jF 1 g = _ from e2]; rfl

theorem cfitsU {s : jU} {γ x p t : Nat} {u v : Int32} {c : Nat → Nat} (hγ : γ < 2) (h50 : s 50 0 0 = I γ) (ht : s 21 0 0 = I t) (hx : x < 1000) (hp : 1 ≤ p ∧ p ≤ 7) (ht7 : t ≤ 7) (hc : ∀ k < t, s 3 (p - 1) k = el γ (c k) ∧ c k < qg γ) (hu : OK 1024 u) (hv : OK 1024 v) : f_Room_fits (I p) (I x) u v s = some (if (U u + hh γ * U v) % qg γ = hs c x t % qg γ then 1 else 0) := by
  have := cfits_spec hγ h50 ht hx hp ht7 hc hu.2 hv.2
  rwa [← hu.1, ← hv.1] at this
theorem mfitsU {g : jS} {γ x p t : Nat} {u v : Int32} {c : Nat → Nat} (hγ : γ < 2) (h9 : g 9 0 = I γ) (h8 : g 8 γ = I (hh γ)) (hg : g 10 0 = I (qg γ)) (ht : g 12 0 = I t) (hx : x < 1100) (hp : 1 ≤ p ∧ p ≤ 7) (ht7 : t ≤ 7) (hc : ∀ k < t, g 34 (7 * (p - 1) + k) = I (c k) ∧ c k < qg γ) (hu : OK 1024 u) (hv : OK 1024 v) : f_Mod_fits (I p) (I x) u v g = some (if (U u + hh γ * U v) % qg γ = hs c x t % qg γ then 1 else 0) := by
  have := mfits_spec hγ h9 h8 hg ht hx hp ht7 hc (Nat.lt_of_lt_of_le hu.2 (by decide)) (Nat.lt_of_lt_of_le hv.2 (by decide))
  rwa [← hu.1, ← hv.1] at this
/-! ===== round 2 ===== -/
theorem popc_or : ∀ m < 128, ∀ i < 7, m.testBit i = false → popc (m ||| 2 ^ i) = popc m + 1 := by decide +kernel
theorem ctot_up {s : jU} {x : Nat} {v : Int32} (hx : x < 7) (h : popc (U v) = popc (U (s 11 x 0)) + 1) : ctot (ups s 11 x (fun _ => v)) = ctot s + 1 := by
  unfold ctot
  match x, hx with
  | 0, _ => show popc (U v) + popc (U (s 11 1 0)) + popc (U (s 11 2 0)) + popc (U (s 11 3 0)) + popc (U (s 11 4 0)) + popc (U (s 11 5 0)) + popc (U (s 11 6 0)) = _; omega
  | 1, _ => show popc (U (s 11 0 0)) + popc (U v) + popc (U (s 11 2 0)) + popc (U (s 11 3 0)) + popc (U (s 11 4 0)) + popc (U (s 11 5 0)) + popc (U (s 11 6 0)) = _; omega
  | 2, _ => show popc (U (s 11 0 0)) + popc (U (s 11 1 0)) + popc (U v) + popc (U (s 11 3 0)) + popc (U (s 11 4 0)) + popc (U (s 11 5 0)) + popc (U (s 11 6 0)) = _; omega
  | 3, _ => show popc (U (s 11 0 0)) + popc (U (s 11 1 0)) + popc (U (s 11 2 0)) + popc (U v) + popc (U (s 11 4 0)) + popc (U (s 11 5 0)) + popc (U (s 11 6 0)) = _; omega
  | 4, _ => show popc (U (s 11 0 0)) + popc (U (s 11 1 0)) + popc (U (s 11 2 0)) + popc (U (s 11 3 0)) + popc (U v) + popc (U (s 11 5 0)) + popc (U (s 11 6 0)) = _; omega
  | 5, _ => show popc (U (s 11 0 0)) + popc (U (s 11 1 0)) + popc (U (s 11 2 0)) + popc (U (s 11 3 0)) + popc (U (s 11 4 0)) + popc (U v) + popc (U (s 11 6 0)) = _; omega
  | 6, _ => show popc (U (s 11 0 0)) + popc (U (s 11 1 0)) + popc (U (s 11 2 0)) + popc (U (s 11 3 0)) + popc (U (s 11 4 0)) + popc (U (s 11 5 0)) + popc (U v) = _; omega
theorem ctot_eq {s s' : jU} (h : s' 11 = s 11) : ctot s' = ctot s := by unfold ctot; rw [h]
def cmpC (p0 x12 : Int32) (s13 : jU) : Option jU := Option.bind (jidx (x12 - 1) 7) fun k24 =>
            Option.bind (f_SR_bit p0) fun x27 =>
            jlet (ups s13 11 k24 (fun _ => (s13 11 k24 0) ||| x27)) fun s28 =>
            Option.bind (f_Board_write 2 p0 s28) fun s31 =>
            Option.bind (f_Board_writeByte x12 s31) fun s33 =>
            some s33
def cmpM (x1 x4 : Int32) (s5 : jS) : Option jS := if jin (x4 - 1) 7 then
              if jin (x4 - 1) 7 then
              jlet (va_up s5 28 (upd (s5 28) (x4 - 1).toNatClampNeg ((s5 28 (x4 - 1).toNatClampNeg) ||| (1 <<< ((x1 - 1) &&& 31))))) fun s23 =>
              Option.bind (f_Mod_show 2 s23) fun s26 =>
              Option.bind (f_Mod_show x1 s26) fun s28 =>
              Option.bind (f_Mod_show x4 s28) fun s30 =>
              some s30
              else none
              else none
def rCb (s : jU) (g : jS) (n : Nat) : Prop := ∀ x < 7, g 28 x = s 11 x 0 ∧ OK 128 (s 11 x 0) ∧ U (s 11 x 0) < 2 ^ n
theorem or_ltn {m n i : Nat} (hm : m < 2 ^ n) (hi : 1 ≤ i ∧ i ≤ n) : m ||| 2 ^ (i - 1) < 2 ^ n :=
  Nat.or_lt_two_pow hm (Nat.pow_lt_pow_of_lt (by decide) (by omega))
theorem cmp_spec {s : jU} {g : jS} {n i j b : Nat} (hn : n ≤ 7) (hi : 1 ≤ i ∧ i ≤ n) (hj : 1 ≤ j ∧ j ≤ n) (hB : rBo s g b) (hb : b + 3 ≤ 1050) (h : rCb s g n) (hbit : bt (U (s 11 (j - 1) 0)) i = false) : ∃ s' g', cmpC (I i) (I j) s = some s' ∧ cmpM (I i) (I j) g = some g' ∧ rBo s' g' (b + 3) ∧ rCb s' g' n ∧ FrC [11, 40, 41] s s' ∧ FrM [28, 40, 41] g g' ∧ ctot s' = ctot s + 1 ∧ (∀ x, x ≠ j - 1 → s' 11 x = s 11 x) ∧ (∀ k, 1 ≤ k → k ≠ i → bt (U (s' 11 (j - 1) 0)) k = bt (U (s 11 (j - 1) 0)) k) := by
  obtain ⟨h1, h2, h3⟩ := h (j - 1) (by omega)
  have hlt := or_lt (m := U (s 11 (j - 1) 0)) (j := i) h2.2 (by omega)
  have hB1 : rBo (ups s 11 (j - 1) (fun _ => I (U (s 11 (j - 1) 0) ||| 2 ^ (i - 1)))) (va_up g 28 (upd (g 28) (j - 1) (I (U (s 11 (j - 1) 0) ||| 2 ^ (i - 1))))) b := hB
  obtain ⟨s1, g1, a1, a2, a3, a4, a5⟩ := wtwo (v := 2) (w := i) hB1 (by omega) (by omega) (by omega)
  obtain ⟨s2, g2, b1, b2, b3, b4, b5⟩ := wone (v := j) a3 (by omega) (by omega)
  have hj7 : jin (I j - 1) 7 := by rw [I1, I_sub hj.1, I_jin (by omega)]; omega
  have hcl : (I j - 1).toNatClampNeg = j - 1 := by rw [I1, I_sub hj.1, I_cl (by omega)]
  have e11 : s2 11 = ups s 11 (j - 1) (fun _ => I (U (s 11 (j - 1) 0) ||| 2 ^ (i - 1))) 11 := by rw [b4 11 (by decide), a4 11 (by decide)]
  have e28 : g2 28 = upd (g 28) (j - 1) (I (U (s 11 (j - 1) 0) ||| 2 ^ (i - 1))) := by rw [b5 28 (by decide), a5 28 (by decide), vu_eq]
  refine ⟨s2, g2, ?_, ?_, b3, ?_, ?_, ?_, ?_, ?_, ?_⟩
  · unfold cmpC f_SR_bit
    rw [jidx_P ⟨hj.1, by omega⟩, Option.bind_some, B_bit hi.1 (by omega), Option.bind_some]
    simp only [jlet]
    rw [show s 11 (j - 1) 0 ||| I (2 ^ (i - 1)) = I (U (s 11 (j - 1) 0) ||| 2 ^ (i - 1)) from by
      rw [← B_or _ h2.2 _ (p2_lt (by omega)), ← h2.1], show f_Board_write 2 (I i) _ = _ from a1, Option.bind_some, b1]; rfl
  · unfold cmpM
    rw [if_pos hj7, if_pos hj7, hcl, B_bit hi.1 (by omega), h1, show s 11 (j - 1) 0 ||| I (2 ^ (i - 1)) = I (U (s 11 (j - 1) 0) ||| 2 ^ (i - 1)) from by
      rw [← B_or _ h2.2 _ (p2_lt (by omega)), ← h2.1]]
    simp only [jlet]
    rw [← Option.bind_assoc, show ((f_Mod_show 2 (va_up g 28 (upd (g 28) (j - 1) (I (U (s 11 (j - 1) 0) ||| 2 ^ (i - 1)))))).bind fun x => f_Mod_show (I i) x) = _ from a2, Option.bind_some, b2]; rfl
  · intro x hx
    rw [e11, e28]
    by_cases e : x = j - 1
    · subst e
      rw [ups_eq, upd_eq, U_I (by omega)]
      exact ⟨rfl, OK_I hlt (by omega), or_ltn h3 hi⟩
    · rw [ups_ni e, upd_ne e]; exact h x hx
  · exact ((FrC.up (l := [11]) (by simp)).tr a4 (by decide) (by decide) (l := [11, 40, 41])).tr b4 (by decide) (by decide)
  · exact ((FrM.up (l := [28]) (by simp)).tr a5 (by decide) (by decide) (l := [28, 40, 41])).tr b5 (by decide) (by decide)
  · rw [ctot_eq e11]
    apply ctot_up (by omega)
    rw [U_I (by omega)]
    exact popc_or _ h2.2 (i - 1) (by omega) hbit
  · intro x hx
    rw [e11, ups_ni hx]
  · intro k hk hki
    rw [e11, ups_eq, U_I (by omega), bt_oth hi.1 hk hki]
/-- how many of the first m parties are bad to i -/
def cE (s : jU) (i : Nat) : Nat → Nat
  | 0 => 0
  | m + 1 => cE s i m + (if s 2 m 1 = I i then 1 else 0)
def cL (s : jU) (i : Nat) : Nat → Nat
  | 0 => 0
  | m + 1 => cL s i m + (if 1 ≤ U (s 2 m 1) ∧ U (s 2 m 1) < i then 1 else 0)
theorem cL_le (s : jU) (i : Nat) : ∀ m, cL s i m ≤ m
  | 0 => Nat.le_refl _
  | m + 1 => by have := cL_le s i m; unfold cL; split <;> omega
theorem cL_1 (s : jU) : ∀ m, cL s 1 m = 0
  | 0 => rfl
  | m + 1 => by have := cL_1 s m; unfold cL; split <;> omega
theorem cL_s {s : jU} {i : Nat} (hi : 1 ≤ i) (hi8 : i < 100) : ∀ m, (∀ x < m, OK 8 (s 2 x 1)) → cL s (i + 1) m = cL s i m + cE s i m
  | 0, _ => rfl
  | m + 1, h => by
    have ih := cL_s hi hi8 m (fun x hx => h x (by omega))
    have hm := h m (by omega)
    have h8 := hm.2
    unfold cL cE
    have e : s 2 m 1 = I i ↔ U (s 2 m 1) = i := by
      constructor
      · intro e; rw [e, U_I (by omega)]
      · intro e; rw [hm.1, e]
    by_cases e1 : U (s 2 m 1) = i
    · rw [if_pos (by omega), if_neg (by omega), if_pos (e.mpr e1)]; omega
    · rw [if_neg (fun x => e1 (e.mp x))]
      by_cases e2 : 1 ≤ U (s 2 m 1) ∧ U (s 2 m 1) < i
      · rw [if_pos (by omega), if_pos e2]; omega
      · rw [if_neg (by omega), if_neg e2]; omega
theorem cE_eq {s s' : jU} {i : Nat} (h : s' 2 = s 2) : ∀ m, cE s' i m = cE s i m
  | 0 => rfl
  | m + 1 => by unfold cE; rw [cE_eq h m, h]
theorem cL_eq {s s' : jU} {i : Nat} (h : s' 2 = s 2) : ∀ m, cL s' i m = cL s i m
  | 0 => rfl
  | m + 1 => by unfold cL; rw [cL_eq h m, h]
/-- has party i slandered one of the first m -/
def cS (s : jU) (i m : Nat) : Nat := if 1 ≤ U (s 2 (i - 1) 2) ∧ U (s 2 (i - 1) 2) ≤ m then 1 else 0
theorem cmp_one {s : jU} {g : jS} {γ n t i b dm : Nat} (hC : Cx s g γ n t) (hi : 1 ≤ i ∧ i ≤ n) (hw : 2 < U (s 10 (i - 1) 0)) (hB : rBo s g b) (hb : b ≤ 112 + 3 * ctot s) (hD : rDe s g γ n t dm) (hF : rFi s g γ n t dm) (h : rCb s g n) (hbit : ∀ x < 7, bt (U (s 11 x 0)) i = false) (hct : ctot s + 14 ≤ 100) : ∃ s' g' b', f_Room_complain (I i) s = some s' ∧ (∃ y, L_Mod_complain_12 (I i) jF 1 g = some (y, g')) ∧ rBo s' g' b' ∧ b' ≤ 112 + 3 * ctot s' ∧ ctot s' ≤ ctot s + 1 + cE s i n ∧ rCb s' g' n ∧ FrC [11, 40, 41] s s' ∧ FrM [28, 40, 41] g g' ∧ (∀ x < 7, ∀ k, 1 ≤ k → k ≠ i → bt (U (s' 11 x 0)) k = bt (U (s 11 x 0)) k) ∧ (∀ x, bt dm (x + 1) = false → s' 11 x = s 11 x) := by
  obtain ⟨⟨-, -, -, -, hγ⟩, ⟨-, -, -, -, ht1, htn, hn7⟩, -⟩ := id hC
  have hq := qg_b γ
  have hceb : ∀ m, cE s i m ≤ m := fun m => by
    induction m with
    | zero => exact Nat.le_refl _
    | succ m ih => unfold cE; split <;> omega
  obtain ⟨s', g', e1, e2, -, c1, c2, b', c3, c4, c5, c6, c7, c8, c9⟩ := loop2 (L_Room_complain_8 (I i) (i - 1)) (L_Mod_complain_12 (I i)) (n + 1) (fun j s1 g1 => 1 ≤ j ∧ FrC [11, 40, 41] s s1 ∧ FrM [28, 40, 41] g g1 ∧ ∃ b', rBo s1 g1 b' ∧ b' ≤ 112 + 3 * ctot s1 ∧ ctot s1 ≤ ctot s + cS s i (j - 1) + cE s i (j - 1) ∧ rCb s1 g1 n ∧ (∀ x < 7, ∀ k, 1 ≤ k → k ≠ i → bt (U (s1 11 x 0)) k = bt (U (s 11 x 0)) k) ∧ (∀ x, j ≤ x + 1 → s1 11 x = s 11 x) ∧ (∀ x, bt dm (x + 1) = false → s1 11 x = s 11 x))
    (fun a m j s1 g1 hj hP => by
      obtain ⟨d0, d1, d2, b1, d3, d4, d5, d6, d7, d8, d9⟩ := hP
      have hC1 := hC.fr d1 d2 (by decide) (by decide)
      obtain ⟨⟨h50, h53, h9, h10, -⟩, ⟨h20, h11, h21, h12, -⟩, hT, hCo, hFa, hCr⟩ := id hC1
      have hlt : ¬ I n < I j := by rw [I_lt (by omega) (by omega)]; omega
      obtain ⟨w1, w2⟩ := cwork hCr (p := i) (r := 2) ⟨hi.1, by omega⟩ (by omega)
      rw [show s1 10 = s 10 from d1 10 (by decide), if_pos hw] at w2
      have x12 : s1 12 = s 12 := d1 12 (by decide)
      have x2 : s1 2 = s 2 := d1 2 (by decide)
      have x5 : s1 5 = s 5 := d1 5 (by decide)
      have x6 : s1 6 = s 6 := d1 6 (by decide)
      have x3 : s1 3 = s 3 := d1 3 (by decide)
      have y23 : g1 23 = g 23 := d2 23 (by decide)
      have y30 : g1 30 = g 30 := d2 30 (by decide)
      have y31 : g1 31 = g 31 := d2 31 (by decide)
      have y34 : g1 34 = g 34 := d2 34 (by decide)
      obtain ⟨hD1, ⟨hD2, hD3, hD4⟩, hD5, hD6⟩ := id hD
      have hj7 : jin (I j) 8 := by rw [I_jin (by omega)]; omega
      have hk49 : jin (I (7 * (j - 1) + (i - 1))) 49 := by rw [I_jin (by omega)]; omega
      have hcS : cS s i (j - 1) ≤ cS s i j := by unfold cS; split <;> split <;> omega
      have hcS1 : cS s i j ≤ 1 := by unfold cS; split <;> omega
      have hce := hceb (j - 1)
      have hcE : cE s i (j - 1) ≤ cE s i j := by
        rw [show j = j - 1 + 1 from by omega]; show cE s i (j - 1) ≤ cE s i (j - 1) + _; omega
      have hd12 := hD3 (j - 1) (by omega)
      rw [show j - 1 + 1 = j from by omega] at hd12
      -- the fits of both
      by_cases hdj : bt dm j = true
      · obtain ⟨n5a, n5b⟩ := (hD5 (j - 1) (by omega) (i - 1) (by omega)).1 (by rw [show j - 1 + 1 = j from by omega]; exact hdj) (by omega)
        obtain ⟨n6a, n6b⟩ := (hD6 (j - 1) (by omega) (i - 1) (by omega)).1 (by rw [show j - 1 + 1 = j from by omega]; exact hdj) (by omega)
        rw [show j - 1 + 1 = j from by omega] at n5a n5b n6a n6b
        have u5 := n5b.2
        have u6 := n6b.2
        have E3 : ∀ k < t, s 3 (j - 1) k = el γ (U (g 34 (7 * (j - 1) + k))) ∧ OK (qg γ) (g 34 (7 * (j - 1) + k)) := fun k hk => (hD4 (j - 1) (by omega) k (by omega)).1 (by rw [show j - 1 + 1 = j from by omega]; exact hdj) hk
        have cf : f_Room_fits (I j) (I i) (s1 5 (i - 1) j) (s1 6 (i - 1) j) s1 = some (if (U (s 5 (i - 1) j) + hh γ * U (s 6 (i - 1) j)) % qg γ = hs (fun k => U (g 34 (7 * (j - 1) + k))) i t % qg γ then 1 else 0) := by
          rw [x5, x6]
          exact cfitsU (c := fun k => U (g 34 (7 * (j - 1) + k))) hγ h50 h21 (by omega) ⟨d0, by omega⟩ (by omega) (fun k hk => by rw [x3]; exact ⟨(E3 k hk).1, (E3 k hk).2.2⟩) (OK_mono n5b (by omega)) (OK_mono n6b (by omega))
        have mf : f_Mod_fits (I j) (I i) (g1 30 (7 * (j - 1) + (i - 1))) (g1 31 (7 * (j - 1) + (i - 1))) g1 = some (if (U (s 5 (i - 1) j) + hh γ * U (s 6 (i - 1) j)) % qg γ = hs (fun k => U (g 34 (7 * (j - 1) + k))) i t % qg γ then 1 else 0) := by
          rw [y30, y31, n5a, n6a]
          exact mfitsU (c := fun k => U (g 34 (7 * (j - 1) + k))) hγ h9 (hT.2.2.1 γ hγ) h10 h12 (by omega) ⟨d0, by omega⟩ (by omega) (fun k hk => by rw [y34]; exact ⟨(E3 k hk).2.1, (E3 k hk).2.2⟩) (OK_mono n5b (by omega)) (OK_mono n6b (by omega))
        have ec : L_Room_complain_8 (I i) (i - 1) (a + 1) (I j) s1 = Option.bind (if s 2 (i - 1) 2 = I j then cmpC (I i) (I j) s1 else if (U (s 5 (i - 1) j) + hh γ * U (s 6 (i - 1) j)) % qg γ = hs (fun k => U (g 34 (7 * (j - 1) + k))) i t % qg γ then some s1 else cmpC (I i) (I j) s1) fun s49 => L_Room_complain_8 (I i) (i - 1) a (I (j + 1)) s49 := by
          rw [L_Room_complain_8, h20, if_neg hlt, jidx_P ⟨d0, by omega⟩, Option.bind_some, x12, hd12, if_pos hdj, if_pos (show ¬ I 1 = 0 by decide), if_pos (show jin 2 7 by decide), show (2 : Int32).toNatClampNeg = 2 from rfl, x2, if_pos hj7, if_pos hj7, I_cl (show j < 2147483648 by omega), cf]
          simp only [jlet, I1, I_add]
          by_cases hsl : s 2 (i - 1) 2 = I j
          · rw [if_neg (fun e => e hsl), if_pos hsl, Option.bind_some, if_pos (show ¬ I 1 = 0 by decide)]
            unfold cmpC; simp only [jlet, jidx_P (show 1 ≤ j ∧ j ≤ 7 by omega)]
          · rw [if_pos hsl, if_neg hsl, Option.bind_some, if_neg (show ¬ ¬ (0 : Int32) = 0 from fun e => e rfl), Option.bind_some]
            split
            · rw [if_pos (show ¬ I 1 = 0 by decide)]
            · rw [if_neg (show ¬ ¬ (0 : Int32) = 0 from fun e => e rfl)]
              unfold cmpC; simp only [jlet, jidx_P (show 1 ≤ j ∧ j ≤ 7 by omega)]
        have em : L_Mod_complain_12 (I i) (m + 1) (I j) g1 = Option.bind (if (U (s 5 (i - 1) j) + hh γ * U (s 6 (i - 1) j)) % qg γ = hs (fun k => U (g 34 (7 * (j - 1) + k))) i t % qg γ then (if s 2 (i - 1) 2 = I j then cmpM (I i) (I j) g1 else some g1) else cmpM (I i) (I j) g1) fun s49 => L_Mod_complain_12 (I i) m (I (j + 1)) s49 := by
          have fF := (hFa (i - 1) (by omega) 2 (by omega)).2.1 (Or.inr rfl)
          rw [L_Mod_complain_12, h11, if_neg hlt, show f_Mod_works (I i) 2 g1 = _ from w2, Option.bind_some, if_neg (show ¬ I 1 = 0 by decide), y23, hD1, min_spec hD2 d0 (by omega), Option.bind_some, if_pos hdj, if_neg (show ¬ I 1 = 0 by decide)]
          simp only [f_Mod_at, ix8 d0 hi.1, Option.bind_some, jlet]
          rw [if_pos hk49, I_cl (show 7 * (j - 1) + (i - 1) < 2147483648 by omega), if_pos hk49, mf, Option.bind_some, show I j + 1 = I (j + 1) from I_add j 1]
          have hi49 : jin ((14 + I i) - 1) 49 := by rw [I14, I_add, I1, I_sub (by omega), I_jin (by omega)]; omega
          have hicl : ((14 + I i) - 1).toNatClampNeg = 7 * 2 + (i - 1) := by rw [I14, I_add, I1, I_sub (by omega), I_cl (by omega)]; omega
          split
          · rw [if_neg (show ¬ (1 : Int32) = 0 by decide)]
            first | rw [if_pos hi49] | skip
            rw [hicl, fF.1, x2]
            split
            · rfl
            · rfl
          · rw [if_pos (show (0 : Int32) = 0 from rfl)]; rfl
        rw [ec, em]
        have docmp : (s 2 (i - 1) 2 = I j ∨ s 2 (j - 1) 1 = I i) → ∃ s' g', (1 ≤ j + 1 ∧ FrC [11, 40, 41] s s' ∧ FrM [28, 40, 41] g g' ∧ ∃ b', rBo s' g' b' ∧ b' ≤ 112 + 3 * ctot s' ∧ ctot s' ≤ ctot s + cS s i (j + 1 - 1) + cE s i (j + 1 - 1) ∧ rCb s' g' n ∧ (∀ x < 7, ∀ k, 1 ≤ k → k ≠ i → bt (U (s' 11 x 0)) k = bt (U (s 11 x 0)) k) ∧ (∀ x, j + 1 ≤ x + 1 → s' 11 x = s 11 x) ∧ (∀ x, bt dm (x + 1) = false → s' 11 x = s 11 x)) ∧ cmpC (I i) (I j) s1 = some s' ∧ cmpM (I i) (I j) g1 = some g' := fun hwhy => by
          have hb0 : bt (U (s1 11 (j - 1) 0)) i = false := by rw [d8 (j - 1) (by omega)]; exact hbit (j - 1) (by omega)
          obtain ⟨s2, g2, q1, q2, q3, q4, q5, q6, q7, q8, q9⟩ := cmp_spec (b := b1) hn7 hi ⟨d0, by omega⟩ d3 (by omega) d6 hb0
          have hcnt : cS s i (j - 1) + cE s i (j - 1) + 1 ≤ cS s i j + cE s i j := by
            rcases hwhy with hw1 | hw1
            · have : U (s 2 (i - 1) 2) = j := by rw [hw1, U_I (by omega)]
              have c1 : cS s i (j - 1) = 0 := by unfold cS; rw [if_neg (by omega)]
              have c2 : cS s i j = 1 := by unfold cS; rw [if_pos (by omega)]
              omega
            · have : cE s i j = cE s i (j - 1) + 1 := by
                rw [show j = j - 1 + 1 from by omega]
                show cE s i (j - 1) + _ = _
                rw [if_pos hw1]; rfl
              omega
          refine ⟨s2, g2, ⟨by omega, d1.tr q5 (fun _ h => h) (fun _ h => h), d2.tr q6 (fun _ h => h) (fun _ h => h), b1 + 3, q3, by omega, by rw [show j + 1 - 1 = j from by omega]; omega, q4, ?_, ?_, ?_⟩, q1, q2⟩
          · intro x hx k hk hki
            by_cases e : x = j - 1
            · subst e; rw [q9 k hk hki]; exact d7 (j - 1) hx k hk hki
            · rw [q8 x e]; exact d7 x hx k hk hki
          · intro x hx
            rw [q8 x (by omega)]; exact d8 x (by omega)
          · intro x hx
            rw [q8 x (fun e => by rw [e, show j - 1 + 1 = j from by omega, hdj] at hx; cases hx)]; exact d9 x hx
        by_cases hfit : (U (s 5 (i - 1) j) + hh γ * U (s 6 (i - 1) j)) % qg γ = hs (fun k => U (g 34 (7 * (j - 1) + k))) i t % qg γ
        · rw [if_pos hfit, if_pos hfit]
          by_cases hsl : s 2 (i - 1) 2 = I j
          · rw [if_pos hsl, if_pos hsl]
            obtain ⟨s2, g2, inv, r1, r2⟩ := docmp (Or.inl hsl)
            exact ⟨s2, g2, inv, by rw [r1]; rfl, by rw [r2]; rfl⟩
          · rw [if_neg hsl, if_neg hsl]
            refine ⟨s1, g1, ⟨by omega, d1, d2, b1, d3, d4, by rw [show j + 1 - 1 = j from by omega]; omega, d6, d7, fun x hx => d8 x (by omega), d9⟩, rfl, rfl⟩
        · rw [if_neg hfit, if_neg hfit]
          have hbd : s 2 (j - 1) 1 = I i := by
            false_or_by_contra
            rename_i hne
            have := hF (j - 1) (by omega) (by rw [show j - 1 + 1 = j from by omega]; exact hdj) (i - 1) (by omega) (by rw [show i - 1 + 1 = i from by omega]; exact hne)
            rw [show j - 1 + 1 = j from by omega, show i - 1 + 1 = i from by omega] at this
            exact hfit this
          obtain ⟨s2, g2, inv, r1, r2⟩ := docmp (Or.inr hbd)
          refine ⟨s2, g2, inv, ?_, by rw [r2]; rfl⟩
          rw [r1]
          split <;> rfl
      · refine ⟨s1, g1, ⟨by omega, d1, d2, b1, d3, d4, by rw [show j + 1 - 1 = j from by omega]; omega, d6, d7, fun x hx => d8 x (by omega), d9⟩, ?_, ?_⟩
        · rw [L_Room_complain_8, h20, if_neg hlt, jidx_P ⟨d0, by omega⟩, Option.bind_some, x12, hd12, if_neg hdj, if_neg (show ¬ ¬ I 0 = 0 from fun e => e rfl)]
          simp only [jlet, I1, I_add, Option.bind_some]
        · rw [L_Mod_complain_12, h11, if_neg hlt, show f_Mod_works (I i) 2 g1 = _ from w2, Option.bind_some, if_neg (show ¬ I 1 = 0 by decide), y23, hD1, min_spec hD2 d0 (by omega), Option.bind_some, if_neg hdj, if_pos (show I 0 = 0 from rfl)]
          simp only [jlet, I1, I_add, Option.bind_some])
    (fun a m s1 g1 hP => by
      obtain ⟨d0, d1, d2, -⟩ := hP
      obtain ⟨-, ⟨h20, h11, -⟩, -⟩ := hC.fr d1 d2 (by decide) (by decide)
      have hlt : I n < I (n + 1) := by rw [I_lt (by omega) (by omega)]; omega
      rw [L_Room_complain_8, L_Mod_complain_12, h20, h11, if_pos hlt, if_pos hlt]
      exact ⟨rfl, rfl⟩) n 1 jF jF s g (by omega) (by unfold jF; omega) (by unfold jF; omega) ⟨by omega, FrC.rf, FrM.rf, b, hB, hb, by omega, h, fun _ _ _ _ _ => rfl, fun _ _ => rfl, fun _ _ => rfl⟩
  have hcS1 : cS s i n ≤ 1 := by unfold cS; split <;> omega
  refine ⟨s', g', b', ?_, ⟨_, e2⟩, c3, c4, by rw [show n + 1 - 1 = n from by omega] at c5; omega, c6, c1, c2, c7, c9⟩
  unfold f_Room_complain
  rw [jidx_P ⟨hi.1, by omega⟩, Option.bind_some, show L_Room_complain_8 (I i) (i - 1) jF 1 s = _ from e1]; rfl

theorem round2 {s : jU} {g : jS} {γ n t b dm : Nat} (hC : Cx s g γ n t) (hB : rBo s g b) (hb : b ≤ 112) (hD : rDe s g γ n t dm) (hF : rFi s g γ n t dm) (h : rCb s g n) (h0 : ∀ x < 7, s 11 x 0 = I 0) : ∃ s' g' b', f_Room_complainAll s = some s' ∧ f_Mod_complain g = some g' ∧ rBo s' g' b' ∧ b' ≤ 112 + 3 * ctot s' ∧ ctot s' ≤ 14 ∧ rCb s' g' n ∧ (∀ x, bt dm (x + 1) = false → s' 11 x = s 11 x) ∧ FrC [11, 40, 41] s s' ∧ FrM [28, 40, 41] g g' := by
  obtain ⟨⟨-, -, -, -, hγ⟩, ⟨-, -, -, -, ht1, htn, hn7⟩, -, -, hFa0, -⟩ := id hC
  have hok8 : ∀ x < n, OK 8 (s 2 x 1) := fun x hx => (hFa0 x (by omega) 1 (by omega)).1
  have hc0 : ctot s = 0 := by
    unfold ctot
    rw [h0 0 (by omega), h0 1 (by omega), h0 2 (by omega), h0 3 (by omega), h0 4 (by omega), h0 5 (by omega), h0 6 (by omega)]
    decide
  obtain ⟨s', g', e1, e2, -, c1, c2, b', c3, c4, c5, c6, -, c7⟩ := loop2 L_Room_complainAll_2 L_Mod_complain_2 (n + 1) (fun k s1 g1 => 1 ≤ k ∧ FrC [11, 40, 41] s s1 ∧ FrM [28, 40, 41] g g1 ∧ ∃ b', rBo s1 g1 b' ∧ b' ≤ 112 + 3 * ctot s1 ∧ ctot s1 ≤ (k - 1) + cL s k n ∧ rCb s1 g1 n ∧ (∀ x < 7, ∀ i, k ≤ i → bt (U (s1 11 x 0)) i = false) ∧ (∀ x, bt dm (x + 1) = false → s1 11 x = s 11 x))
    (fun a m k s1 g1 hk hP => by
      obtain ⟨d0, d1, d2, b1, d3, d4, d5, d6, d7, d8⟩ := hP
      have hC1 := hC.fr d1 d2 (by decide) (by decide)
      obtain ⟨-, ⟨h20, h11, -⟩, -, -, hFa, hCr⟩ := id hC1
      obtain ⟨w1, w2⟩ := cwork hCr (p := k) (r := 2) ⟨d0, by omega⟩ (by omega)
      have hlt : ¬ I n < I k := by rw [I_lt (by omega) (by omega)]; omega
      have hcl := cL_le s k n
      have hcs := cL_s (s := s) d0 (by omega) n hok8
      have f2 : s1 2 = s 2 := d1 2 (by decide)
      have ec : L_Room_complainAll_2 (a + 1) (I k) s1 = Option.bind (if I (if 2 < U (s1 10 (k - 1) 0) then 1 else 0) = 0 then some s1 else Option.bind (f_Room_complain (I k) s1) fun s19 => some s19) fun s25 => L_Room_complainAll_2 a (I (k + 1)) s25 := by
        rw [L_Room_complainAll_2, h20, if_neg hlt, jidx_P ⟨d0, by omega⟩, Option.bind_some, show f_Party_worksIn (k - 1) 2 s1 = _ from w1, Option.bind_some]
        simp only [jlet, I1, I_add]
      have em : L_Mod_complain_2 (m + 1) (I k) g1 = Option.bind (L_Mod_complain_12 (I k) jF 1 g1) fun z => L_Mod_complain_2 m (I (k + 1)) z.2 := by
        rw [L_Mod_complain_2, h11, if_neg hlt, show I k + 1 = I (k + 1) from I_add k 1]
        rfl
      rw [ec, em]
      by_cases hw : 2 < U (s1 10 (k - 1) 0)
      · rw [if_pos hw, if_neg (show ¬ I 1 = 0 by decide)]
        have hD1 : rDe s1 g1 γ n t dm := by
          unfold rDe rEl rNu at *
          rw [d1 12 (by decide), d1 3 (by decide), d1 5 (by decide), d1 6 (by decide), d2 23 (by decide), d2 34 (by decide), d2 30 (by decide), d2 31 (by decide)]
          exact hD
        have hF1 : rFi s1 g1 γ n t dm := by
          unfold rFi at *
          rw [f2, d1 5 (by decide), d1 6 (by decide), d2 34 (by decide)]
          exact hF
        obtain ⟨s2, g2, b2, x1, ⟨y, x2⟩, x3, x4, x5, x6, x7, x8, x9, x10⟩ := cmp_one (i := k) hC1 ⟨d0, by omega⟩ hw d3 d4 hD1 hF1 d6 (fun x hx => d7 x hx k (Nat.le_refl _)) (by omega)
        rw [cE_eq f2] at x5
        refine ⟨s2, g2, ⟨by omega, d1.tr x7 (fun _ h => h) (fun _ h => h), d2.tr x8 (fun _ h => h) (fun _ h => h), b2, x3, x4, by omega, x6, ?_, fun x hx => (x10 x hx).trans (d8 x hx)⟩, ?_, ?_⟩
        · intro x hx i hi
          rw [x9 x hx i (by omega) (by omega)]; exact d7 x hx i (by omega)
        · rw [x1]; rfl
        · rw [x2]; rfl
      · rw [if_neg hw, if_pos (show I 0 = 0 from rfl)]
        refine ⟨s1, g1, ⟨by omega, d1, d2, b1, d3, d4, by omega, d6, fun x hx i hi => d7 x hx i (by omega), d8⟩, rfl, ?_⟩
        rw [if_neg hw] at w2
        show Option.bind (L_Mod_complain_12 (I k) (3999 + 1) 1 g1) _ = _
        rw [L_Mod_complain_12, h11, if_neg (show ¬ I n < 1 by rw [I1, I_lt (by omega) (by omega)]; omega), show f_Mod_works (I k) 2 g1 = _ from w2]
        rfl)
    (fun a m s1 g1 hP => by
      obtain ⟨d0, d1, d2, -⟩ := hP
      obtain ⟨-, ⟨h20, h11, -⟩, -⟩ := hC.fr d1 d2 (by decide) (by decide)
      have hlt : I n < I (n + 1) := by rw [I_lt (by omega) (by omega)]; omega
      rw [L_Room_complainAll_2, L_Mod_complain_2, h20, h11, if_pos hlt, if_pos hlt]
      exact ⟨rfl, rfl⟩) n 1 jF jF s g (by omega) (by unfold jF; omega) (by unfold jF; omega) ⟨by omega, FrC.rf, FrM.rf, b, hB, by omega, by omega, h, fun x hx i _ => by rw [h0 x hx, U_I (by omega), bt0], fun _ _ => rfl⟩
  have hcl := cL_le s (n + 1) n
  refine ⟨s', g', b', ?_, ?_, c3, c4, by omega, c6, c7, c1, c2⟩
  · unfold f_Room_complainAll
    rw [show L_Room_complainAll_2 jF 1 s = _ from e1]; rfl
  · unfold f_Mod_complain
    rw [show L_Mod_complain_2 jF 1 g = _ from e2]; rfl

/-! ===== round 3 ===== -/
def pcn (m : Nat) : Nat → Nat
  | 0 => 0
  | k + 1 => pcn m k + (if m.testBit k then 1 else 0)
theorem pcn_le : ∀ m < 128, ∀ k < 8, pcn m k ≤ popc m := by decide +kernel
def psum (s : jU) : Nat → Nat
  | 0 => 0
  | x + 1 => psum s x + popc (U (s 11 x 0))
theorem psum_mono (s : jU) (x d : Nat) : psum s x ≤ psum s (x + d) := by
  induction d with
  | zero => exact Nat.le_refl _
  | succ d ih => rw [← Nat.add_assoc]; show _ ≤ psum s (x + d) + _; omega
theorem psum_7 (s : jU) : psum s 7 = ctot s := by unfold ctot; simp [psum]
def rAn (s : jU) (g : jS) (γ : Nat) : Prop := ∀ i < 7, OK 128 (g 29 i) ∧ ∀ c < 7, (bt (U (g 29 i)) (c + 1) = true → (g 32 (7 * i + c) = s 7 i (c + 1) ∧ OK (qg γ) (s 7 i (c + 1))) ∧ (g 33 (7 * i + c) = s 8 i (c + 1) ∧ OK (qg γ) (s 8 i (c + 1)))) ∧ (¬ bt (U (g 29 i)) (c + 1) = true → s 7 i (c + 1) = -1)
def rSb (s : jU) (g : jS) : Prop := ∀ i < 7, ∀ c < 7, bt (U (g 29 i)) (c + 1) = true → bt (U (s 11 i 0)) (c + 1) = true
def ansC (p0 : Int32) (k10 : Nat) (x12 : Int32) (s13 : jU) : Option jU := Option.bind (f_Room_dealtNumber p0 x12 0 s13) fun x19 =>
          Option.bind (f_Room_dealtNumber p0 x12 1 s13) fun x21 =>
          Option.bind (f_Party_has k10 4 s13) fun x23 =>
          Option.bind (α := Int32) (
            if x23 = 0 then
              some x19
            else
              Option.bind (F_plus (fnum (s13 53 0 0)) x19 1) fun x26 =>
              some x26) fun x27 =>
          if jin x12 8 then
          jlet (ups s13 7 k10 (upd (s13 7 k10) x12.toNatClampNeg x27)) fun s30 =>
          if jin x12 8 then
          jlet (ups s30 8 k10 (upd (s30 8 k10) x12.toNatClampNeg x21)) fun s33 =>
          Option.bind (f_Board_write 3 p0 s33) fun s37 =>
          if jin x12 8 then
          Option.bind (f_Room_writeNumbers x12 (s37 7 k10 x12.toNatClampNeg) x21 s37) fun s40 =>
          some s40
          else none
          else none
          else none
def ansM (x1 x4 : Int32) (s5 : jS) : Option jS := if jin (x1 - 1) 7 then
              if jin (x1 - 1) 7 then
              jlet (va_up s5 29 (upd (s5 29) (x1 - 1).toNatClampNeg ((s5 29 (x1 - 1).toNatClampNeg) ||| (1 <<< ((x4 - 1) &&& 31))))) fun s18 =>
              Option.bind (f_Mod_at x1 x4 s18) fun x21 =>
              Option.bind (f_Mod_f x1 x4 s18) fun x23 =>
              Option.bind (f_Mod_is x1 4 s18) fun x25 =>
              Option.bind (α := Int32) (
                if x25 = 0 then
                  some 0
                else
                  some 1) fun x28 =>
              if ¬ (s18 10 0) = 0 then
              if jin x21 49 then
              jlet (va_up s18 32 (upd (s18 32) x21.toNatClampNeg (jrem (x23 + x28) (s18 10 0)))) fun s32 =>
              Option.bind (f_Mod_at x1 x4 s32) fun x35 =>
              Option.bind (f_Mod_blind x1 x4 s32) fun x37 =>
              if jin x35 49 then
              jlet (va_up s32 33 (upd (s32 33) x35.toNatClampNeg x37)) fun s39 =>
              Option.bind (f_Mod_at x1 x4 s39) fun x42 =>
              if jin x42 49 then
              Option.bind (f_Mod_at x1 x4 s39) fun x45 =>
              if jin x45 49 then
              Option.bind (f_Mod_showNumbers 3 x1 x4 (s39 32 x42.toNatClampNeg) (s39 33 x45.toNatClampNeg) s39) fun s48 =>
              some s48
              else none
              else none
              else none
              else none
              else none
              else none
              else none
theorem cdx {s : jU} {g : jS} {γ n t p k : Nat} (hC : Cx s g γ n t) (hp : 1 ≤ p ∧ p ≤ 7) (hk : k < 100) (w : Nat) (hw : w < 2) : f_Room_dealtNumber (I p) (I k) (I w) s = some (I (dlt s γ t w (p - 1) k)) := by
  obtain ⟨⟨h50, h53, h9, h10, hγ⟩, ⟨h20, h11, h21, h12, ht1, htn, hn7⟩, hT, hCo, -⟩ := hC
  refine cdealt_spec hγ h53 h21 (by omega) hp ht1 (by omega) hw (fun k' hk' => ?_)
  obtain ⟨⟨-, x2⟩, ⟨-, y2⟩⟩ := hCo (p - 1) (by omega) k' (by omega)
  match w, hw with
  | 0, _ => exact ⟨x2.1, x2.2⟩
  | 1, _ => exact ⟨y2.1, y2.2⟩
theorem mfx {s : jU} {g : jS} {γ n t p k : Nat} (hC : Cx s g γ n t) (hp : 1 ≤ p ∧ p ≤ 7) (hk : k < 100) : f_Mod_f (I p) (I k) g = some (I (dlt s γ t 0 (p - 1) k)) ∧ f_Mod_blind (I p) (I k) g = some (I (dlt s γ t 1 (p - 1) k)) := by
  obtain ⟨⟨h50, h53, h9, h10, hγ⟩, ⟨h20, h11, h21, h12, ht1, htn, hn7⟩, hT, hCo, -⟩ := hC
  refine ⟨mf_spec h10 h12 (qg_b γ) (by omega) hp (by omega) (fun k' hk' => ?_), mb_spec h10 h12 (qg_b γ) (by omega) hp (by omega) (fun k' hk' => ?_)⟩
  · obtain ⟨⟨x1, x2⟩, -⟩ := hCo (p - 1) (by omega) k' (by omega)
    rw [x1]; exact ⟨x2.1, x2.2⟩
  · obtain ⟨-, ⟨x1, x2⟩⟩ := hCo (p - 1) (by omega) k' (by omega)
    rw [x1]; exact ⟨x2.1, x2.2⟩
theorem ans_spec {s : jU} {g : jS} {γ n t i j b : Nat} (hC : Cx s g γ n t) (hi : 1 ≤ i ∧ i ≤ n) (hj : 1 ≤ j ∧ j ≤ n) (hB : rBo s g b) (hb : b + 7 ≤ 1050) (h : rAn s g γ) : ∃ s' g', ansC (I i) (i - 1) (I j) s = some s' ∧ ansM (I i) (I j) g = some g' ∧ rBo s' g' (b + 7) ∧ rAn s' g' γ ∧ FrC [7, 8, 40, 41] s s' ∧ FrM [29, 32, 33, 40, 41] g g' ∧ (∀ x, x ≠ i - 1 → g' 29 x = g 29 x) ∧ g' 29 (i - 1) = I (U (g 29 (i - 1)) ||| 2 ^ (j - 1)) ∧ U (g 29 (i - 1)) ||| 2 ^ (j - 1) < 128 := by
  obtain ⟨⟨h50, h53, h9, h10, hγ⟩, ⟨h20, h11, h21, h12, ht1, htn, hn7⟩, hT, hCo, hFa, -⟩ := id hC
  have hq := qg_b γ
  obtain ⟨h1, h2⟩ := h (i - 1) (by omega)
  have hlt := or_lt (m := U (g 29 (i - 1))) (j := j) h1.2 (by omega)
  have hl : ∀ w, dlt s γ t w (i - 1) j < qg γ := fun w => Nat.mod_lt _ (by omega)
  have hl0 := hl 0
  have hl1 := hl 1
  have hj8 : jin (I j) 8 := by rw [I_jin (by omega)]; omega
  have hi7 : jin (I i - 1) 7 := by rw [I1, I_sub hi.1, I_jin (by omega)]; omega
  have hicl : (I i - 1).toNatClampNeg = i - 1 := by rw [I1, I_sub hi.1, I_cl (by omega)]
  have hk49 : jin (I (7 * (i - 1) + (j - 1))) 49 := by rw [I_jin (by omega)]; omega
  have hqn : ¬ I (qg γ) = 0 := by rw [I0, I_eq (by omega) (by omega)]; omega
  -- the value that is shown
  have hlie : ∃ d, d ≤ 1 ∧ I (if s 2 (i - 1) 4 = I 0 then 0 else 1) = I d := by
    by_cases e : s 2 (i - 1) 4 = I 0
    · exact ⟨0, by omega, by rw [if_pos e]⟩
    · exact ⟨1, by omega, by rw [if_neg e]⟩
  obtain ⟨d, hd, hde⟩ := hlie
  have hv : (dlt s γ t 0 (i - 1) j + d) % qg γ < qg γ := Nat.mod_lt _ (by omega)
  generalize hV : (dlt s γ t 0 (i - 1) j + d) % qg γ = V at hv
  have hB1 : rBo (ups (ups s 7 (i - 1) (upd (s 7 (i - 1)) j (I V))) 8 (i - 1) (upd (s 8 (i - 1)) j (I (dlt s γ t 1 (i - 1) j)))) (va_up (va_up (va_up g 29 (upd (g 29) (i - 1) (I (U (g 29 (i - 1)) ||| 2 ^ (j - 1))))) 32 (upd (g 32) (7 * (i - 1) + (j - 1)) (I V))) 33 (upd (g 33) (7 * (i - 1) + (j - 1)) (I (dlt s γ t 1 (i - 1) j)))) b := hB
  obtain ⟨s1, s2, g2, a1, a2, a3, a4, a5, a5', a6⟩ := wnums (c := 3) (p := i) (o := j) (u := V) (v := dlt s γ t 1 (i - 1) j) hB1 hb (by omega) (by omega) (by omega) (by omega) (by omega)
  have E7 : s2 7 = ups s 7 (i - 1) (upd (s 7 (i - 1)) j (I V)) 7 := a5 7 (by decide)
  have E8 : s2 8 = ups s 8 (i - 1) (upd (s 8 (i - 1)) j (I (dlt s γ t 1 (i - 1) j))) 8 := a5 8 (by decide)
  have E29 : g2 29 = upd (g 29) (i - 1) (I (U (g 29 (i - 1)) ||| 2 ^ (j - 1))) := a6 29 (by decide)
  have E32 : g2 32 = upd (g 32) (7 * (i - 1) + (j - 1)) (I V) := a6 32 (by decide)
  have E33 : g2 33 = upd (g 33) (7 * (i - 1) + (j - 1)) (I (dlt s γ t 1 (i - 1) j)) := a6 33 (by decide)
  refine ⟨s2, g2, ?_, ?_, a4, ?_, ?_, ?_, ?_, ?_, hlt⟩
  · unfold ansC
    rw [show f_Room_dealtNumber (I i) (I j) 0 s = _ from cdx hC ⟨hi.1, by omega⟩ (by omega) 0 (by omega), Option.bind_some, show f_Room_dealtNumber (I i) (I j) 1 s = _ from cdx hC ⟨hi.1, by omega⟩ (by omega) 1 (by omega), Option.bind_some, show f_Party_has (i - 1) 4 s = _ from chas_spec (k := 4) (by omega), Option.bind_some, hde]
    have : (if I d = 0 then some (I (dlt s γ t 0 (i - 1) j)) else Option.bind (F_plus (fnum (s 53 0 0)) (I (dlt s γ t 0 (i - 1) j)) 1) fun x26 => some x26) = some (I V) := by
      rw [h53, fnum_q hγ, I1, F_pl hγ (by omega) (by omega), ← hV]
      match d, hd with
      | 0, _ => rw [if_pos (show I 0 = 0 from rfl), Nat.mod_eq_of_lt (show dlt s γ t 0 (i - 1) j + 0 < qg γ from hl0)]; rfl
      | 1, _ => rw [if_neg (show ¬ I 1 = 0 by decide)]; rfl
    rw [this, Option.bind_some, if_pos hj8, I_cl (by omega)]
    simp only [jlet]
    rw [if_pos hj8]
    rw [ups_nK (show 8 ≠ 7 by decide), show f_Board_write 3 (I i) _ = _ from a1, Option.bind_some, if_pos hj8]
    have e7 : s1 7 (i - 1) j = I V := by
      rw [a5' 7 (by decide), ups_nK (show 7 ≠ 8 by decide), ups_eq, upd_eq]
    rw [e7, a2]; rfl
  · unfold ansM
    rw [if_pos hi7, if_pos hi7, hicl, B_bit hj.1 (by omega), show g 29 (i - 1) ||| I (2 ^ (j - 1)) = I (U (g 29 (i - 1)) ||| 2 ^ (j - 1)) from by
      rw [← B_or _ h1.2 _ (p2_lt (by omega)), ← h1.1]]
    simp only [jlet, f_Mod_at, ix8 hi.1 hj.1, Option.bind_some]
    have hCa : Cx s (va_up g 29 (upd (g 29) (i - 1) (I (U (g 29 (i - 1)) ||| 2 ^ (j - 1))))) γ n t := hC
    have hCb : Cx s (va_up (va_up g 29 (upd (g 29) (i - 1) (I (U (g 29 (i - 1)) ||| 2 ^ (j - 1))))) 32 (upd (g 32) (7 * (i - 1) + (j - 1)) (I V))) γ n t := hC
    rw [(mfx hCa ⟨hi.1, by omega⟩ (by omega)).1, Option.bind_some, show f_Mod_is (I i) 4 (va_up g 29 _) = _ from mis_spec (k := 4) hCa.2.2.2.2.1 ⟨hi.1, by omega⟩ (by omega) (by omega), Option.bind_some, hde]
    rw [show (if I d = 0 then some (0 : Int32) else some 1) = some (I d) from by
      match d, hd with | 0, _ => rfl | 1, _ => rfl]
    rw [Option.bind_some, show va_up g 29 (upd (g 29) (i - 1) (I (U (g 29 (i - 1)) ||| 2 ^ (j - 1)))) 10 0 = _ from h10, if_pos hqn, if_pos hk49, I_add, I_rem (by omega) (by omega), I_cl (show 7 * (i - 1) + (j - 1) < 2147483648 by omega), hV]
    rw [vu_ne (show 32 ≠ 29 by decide), (mfx hCb ⟨hi.1, by omega⟩ (by omega)).2, Option.bind_some, if_pos hk49, if_pos hk49, if_pos hk49]
    rw [vu_ne (show 32 ≠ 33 by decide), vu_eq, vu_eq, upd_eq, upd_eq, vu_ne (show 33 ≠ 32 by decide), vu_ne (show 33 ≠ 29 by decide), show f_Mod_showNumbers 3 (I i) (I j) (I V) (I (dlt s γ t 1 (i - 1) j)) _ = _ from a3]; rfl
  · intro x hx
    rw [E7, E8, E29, E32, E33]
    by_cases e : x = i - 1
    · subst e
      rw [upd_eq, U_I (by omega), ups_eq, ups_eq]
      refine ⟨OK_I hlt (by omega), fun c hc => ?_⟩
      by_cases ec : c + 1 = j
      · rw [show c = j - 1 from by omega, show j - 1 + 1 = j from by omega, upd_eq, upd_eq, upd_eq, upd_eq]
        exact ⟨fun _ => ⟨⟨rfl, OK_I hv (by omega)⟩, rfl, OK_I hl1 (by omega)⟩, fun hh => absurd bt_self hh⟩
      · rw [bt_oth hj.1 (by omega) ec, upd_ne ec, upd_ne ec, upd_ne (by omega), upd_ne (by omega)]
        exact h2 c hc
    · rw [upd_ne e, ups_ni e, ups_ni e]
      refine ⟨(h x hx).1, fun c hc => ?_⟩
      rw [upd_ne (by omega), upd_ne (by omega)]
      exact (h x hx).2 c hc
  · exact ((FrC.up (l := [7]) (by simp)).tr (FrC.up (l := [8]) (by simp)) (by decide) (by decide) (l := [7, 8, 40, 41])).tr a5 (by decide) (by decide)
  · exact (((FrM.up (l := [29]) (by simp)).tr (FrM.up (l := [32]) (by simp)) (by decide) (by decide) (l := [29, 32, 33, 40, 41])).tr (FrM.up (l := [33]) (by simp)) (fun _ h => h) (by decide)).tr a6 (fun _ h => h) (by decide)
  · intro x hx
    rw [E29, upd_ne hx]
  · rw [E29, upd_eq]

theorem ccomp_spec {s : jU} {k x : Nat} (h : OK 128 (s 11 k 0)) (hx : 1 ≤ x ∧ x ≤ 7) : f_Party_isComplainedOf k (I x) s = some (I (if bt (U (s 11 k 0)) x then 1 else 0)) := by
  unfold f_Party_isComplainedOf f_SR_bit
  rw [B_bit hx.1 (by omega), Option.bind_some]
  have e := B_tst (U (s 11 k 0)) h.2 (x - 1) (by omega)
  rw [← h.1] at e
  by_cases hb : bt (U (s 11 k 0)) x = true
  · have hn : ¬ (U (s 11 k 0)).testBit (x - 1) = false := by unfold bt at hb; rw [hb]; decide
    rw [if_neg (fun he => hn (e.mp he)), if_pos hb]; rfl
  · have hn : (U (s 11 k 0)).testBit (x - 1) = false := by unfold bt at hb; simpa using hb
    rw [if_pos (e.mpr hn), if_neg hb]; rfl
theorem ans_one {s : jU} {g : jS} {γ n t i b : Nat} (hC : Cx s g γ n t) (hi : 1 ≤ i ∧ i ≤ n) (hw : 3 < U (s 10 (i - 1) 0)) (hdu : s 2 (i - 1) 3 = I 0) (hB : rBo s g b) (hb : b + 7 * popc (U (s 11 (i - 1) 0)) ≤ 1050) (h : rAn s g γ) (hcb : rCb s g n) (hsb : rSb s g) : ∃ s' g' b', f_Room_answer (I i) s = some s' ∧ (∃ y, L_Mod_answer_12 (I i) jF 1 g = some (y, g')) ∧ rBo s' g' b' ∧ b' ≤ b + 7 * popc (U (s 11 (i - 1) 0)) ∧ rAn s' g' γ ∧ rSb s' g' ∧ FrC [7, 8, 40, 41] s s' ∧ FrM [29, 32, 33, 40, 41] g g' := by
  obtain ⟨⟨-, -, -, -, hγ⟩, ⟨-, -, -, -, ht1, htn, hn7⟩, -⟩ := id hC
  obtain ⟨q1, q2, q3⟩ := hcb (i - 1) (by omega)
  have hpl : ∀ k < 8, pcn (U (s 11 (i - 1) 0)) k ≤ popc (U (s 11 (i - 1) 0)) := pcn_le _ q2.2
  obtain ⟨s', g', e1, e2, -, c1, c2, b', c3, c4, c5, c6⟩ := loop2 (L_Room_answer_8 (I i) (i - 1)) (L_Mod_answer_12 (I i)) (n + 1) (fun j s1 g1 => 1 ≤ j ∧ FrC [7, 8, 40, 41] s s1 ∧ FrM [29, 32, 33, 40, 41] g g1 ∧ ∃ b', rBo s1 g1 b' ∧ b' ≤ b + 7 * pcn (U (s 11 (i - 1) 0)) (j - 1) ∧ rAn s1 g1 γ ∧ rSb s1 g1)
    (fun a m j s1 g1 hj hP => by
      obtain ⟨d0, d1, d2, b1, d3, d4, d5, d6⟩ := hP
      have hC1 := hC.fr d1 d2 (by decide) (by decide)
      obtain ⟨-, ⟨h20, h11, -⟩, -, -, hFa, hCr⟩ := id hC1
      have hlt : ¬ I n < I j := by rw [I_lt (by omega) (by omega)]; omega
      obtain ⟨-, w2⟩ := cwork hCr (p := i) (r := 3) ⟨hi.1, by omega⟩ (by omega)
      rw [show s1 10 = s 10 from d1 10 (by decide), if_pos hw] at w2
      have x11 : s1 11 = s 11 := d1 11 (by decide)
      have x2 : s1 2 = s 2 := d1 2 (by decide)
      have y28 : g1 28 = g 28 := d2 28 (by decide)
      have hi7 : jin (I i - 1) 7 := by rw [I1, I_sub hi.1, I_jin (by omega)]; omega
      have hicl : (I i - 1).toNatClampNeg = i - 1 := by rw [I1, I_sub hi.1, I_cl (by omega)]
      have w3 : f_Mod_is (I i) 3 g1 = some (I 0) := by
        rw [show f_Mod_is (I i) 3 g1 = _ from mis_spec (k := 3) hFa ⟨hi.1, by omega⟩ (by omega) (by omega), x2, if_pos hdu]
      have ec : L_Room_answer_8 (I i) (i - 1) (a + 1) (I j) s1 = Option.bind (if bt (U (s 11 (i - 1) 0)) j = true then ansC (I i) (i - 1) (I j) s1 else some s1) fun s41 => L_Room_answer_8 (I i) (i - 1) a (I (j + 1)) s41 := by
        rw [L_Room_answer_8, h20, if_neg hlt, ccomp_spec (by rw [x11]; exact q2) ⟨d0, by omega⟩, Option.bind_some, x11, show I j + 1 = I (j + 1) from I_add j 1]
        by_cases hb : bt (U (s 11 (i - 1) 0)) j = true
        · rw [if_pos hb, if_pos hb, if_pos (show ¬ I 1 = 0 by decide)]; rfl
        · rw [if_neg hb, if_neg hb, if_neg (show ¬ ¬ I 0 = 0 from fun e => e rfl)]; rfl
      have em : L_Mod_answer_12 (I i) (m + 1) (I j) g1 = Option.bind (if bt (U (s 11 (i - 1) 0)) j = true then ansM (I i) (I j) g1 else some g1) fun s41 => L_Mod_answer_12 (I i) m (I (j + 1)) s41 := by
        rw [L_Mod_answer_12, h11, if_neg hlt, show f_Mod_works (I i) 3 g1 = _ from w2, Option.bind_some, if_neg (show ¬ I 1 = 0 by decide), w3, Option.bind_some, if_neg (show ¬ ¬ I 0 = 0 from fun e => e rfl), if_pos hi7, show g1 28 (I i - 1).toNatClampNeg = I (U (s 11 (i - 1) 0)) from by rw [hicl, y28, q1]; exact q2.1, min_spec q2.2 d0 (by omega), Option.bind_some, show I j + 1 = I (j + 1) from I_add j 1]
        by_cases hb : bt (U (s 11 (i - 1) 0)) j = true
        · rw [if_pos hb, if_pos hb, if_pos (show ¬ I 1 = 0 by decide)]; rfl
        · rw [if_neg hb, if_neg hb, if_neg (show ¬ ¬ I 0 = 0 from fun e => e rfl)]; rfl
      rw [ec, em]
      have hpc : pcn (U (s 11 (i - 1) 0)) j = pcn (U (s 11 (i - 1) 0)) (j - 1) + (if bt (U (s 11 (i - 1) 0)) j = true then 1 else 0) := by
        rw [show j = j - 1 + 1 from by omega]; rfl
      have hpj := hpl j (by omega)
      by_cases hb2 : bt (U (s 11 (i - 1) 0)) j = true
      · rw [if_pos hb2, if_pos hb2]
        rw [if_pos hb2] at hpc
        obtain ⟨s2, g2, r1, r2, r3, r4, r5, r6, r7, r8, r9⟩ := ans_spec (j := j) hC1 hi ⟨d0, by omega⟩ d3 (by omega) d5
        refine ⟨s2, g2, ⟨by omega, d1.tr r5 (fun _ h => h) (fun _ h => h), d2.tr r6 (fun _ h => h) (fun _ h => h), _, r3, by rw [show j + 1 - 1 = j from by omega]; omega, r4, ?_⟩, ?_, ?_⟩
        · intro x hx c hc hbc
          rw [r5 11 (by decide)]
          by_cases e : x = i - 1
          · subst e
            rw [r8, U_I (by omega)] at hbc
            by_cases ec : c + 1 = j
            · rw [ec, x11]; exact hb2
            · rw [bt_oth d0 (by omega) ec] at hbc
              exact d6 (i - 1) hx c hc hbc
          · rw [r7 x e] at hbc
            exact d6 x hx c hc hbc
        · rw [r1]; rfl
        · rw [r2]; rfl
      · rw [if_neg hb2, if_neg hb2]
        rw [if_neg hb2] at hpc
        exact ⟨s1, g1, ⟨by omega, d1, d2, b1, d3, by rw [show j + 1 - 1 = j from by omega]; omega, d5, d6⟩, rfl, rfl⟩)
    (fun a m s1 g1 hP => by
      obtain ⟨d0, d1, d2, -⟩ := hP
      obtain ⟨-, ⟨h20, h11, -⟩, -⟩ := hC.fr d1 d2 (by decide) (by decide)
      have hlt : I n < I (n + 1) := by rw [I_lt (by omega) (by omega)]; omega
      rw [L_Room_answer_8, L_Mod_answer_12, h20, h11, if_pos hlt, if_pos hlt]
      exact ⟨rfl, rfl⟩) n 1 jF jF s g (by omega) (by unfold jF; omega) (by unfold jF; omega) ⟨by omega, FrC.rf, FrM.rf, b, hB, by omega, h, hsb⟩
  have hpn := hpl n (by omega)
  rw [show n + 1 - 1 = n from by omega] at c4
  refine ⟨s', g', b', ?_, ⟨_, e2⟩, c3, by omega, c5, c6, c1, c2⟩
  unfold f_Room_answer
  rw [jidx_P ⟨hi.1, by omega⟩, Option.bind_some, show L_Room_answer_8 (I i) (i - 1) jF 1 s = _ from e1]; rfl
theorem round3 {s : jU} {g : jS} {γ n t b : Nat} (hC : Cx s g γ n t) (hB : rBo s g b) (hct : ctot s ≤ 14) (hb : b ≤ 112 + 3 * ctot s) (h : rAn s g γ) (hcb : rCb s g n) (hsb : rSb s g) : ∃ s' g' b', f_Room_answerAll s = some s' ∧ f_Mod_answer g = some g' ∧ rBo s' g' b' ∧ b' ≤ 252 ∧ rAn s' g' γ ∧ rSb s' g' ∧ FrC [7, 8, 40, 41] s s' ∧ FrM [29, 32, 33, 40, 41] g g' := by
  obtain ⟨⟨-, -, -, -, hγ⟩, ⟨-, -, -, -, ht1, htn, hn7⟩, -⟩ := id hC
  have hps : ∀ x, x ≤ 7 → psum s x ≤ ctot s := fun x hx => by
    rw [← psum_7]
    have := psum_mono s x (7 - x)
    rwa [show x + (7 - x) = 7 from by omega] at this
  obtain ⟨s', g', e1, e2, -, c1, c2, b', c3, c4, c5, c6⟩ := loop2 L_Room_answerAll_2 L_Mod_answer_2 (n + 1) (fun k s1 g1 => 1 ≤ k ∧ FrC [7, 8, 40, 41] s s1 ∧ FrM [29, 32, 33, 40, 41] g g1 ∧ ∃ b', rBo s1 g1 b' ∧ b' ≤ b + 7 * psum s (k - 1) ∧ rAn s1 g1 γ ∧ rSb s1 g1)
    (fun a m k s1 g1 hk hP => by
      obtain ⟨d0, d1, d2, b1, d3, d4, d5, d6⟩ := hP
      have hC1 := hC.fr d1 d2 (by decide) (by decide)
      obtain ⟨-, ⟨h20, h11, -⟩, -, -, hFa, hCr⟩ := id hC1
      obtain ⟨w1, w2⟩ := cwork hCr (p := k) (r := 3) ⟨d0, by omega⟩ (by omega)
      have hlt : ¬ I n < I k := by rw [I_lt (by omega) (by omega)]; omega
      have f11 : s1 11 = s 11 := d1 11 (by decide)
      have hpk : psum s k = psum s (k - 1) + popc (U (s 11 (k - 1) 0)) := by
        rw [show k = k - 1 + 1 from by omega]; rfl
      have hpk7 := hps k (by omega)
      have ec : L_Room_answerAll_2 (a + 1) (I k) s1 = Option.bind (if I (if 3 < U (s1 10 (k - 1) 0) then 1 else 0) = 0 then some s1 else if ¬ I (if s1 2 (k - 1) 3 = I 0 then 0 else 1) = 0 then some s1 else Option.bind (f_Room_answer (I k) s1) fun s24 => some s24) fun s25 => L_Room_answerAll_2 a (I (k + 1)) s25 := by
        rw [L_Room_answerAll_2, h20, if_neg hlt, jidx_P ⟨d0, by omega⟩, Option.bind_some, show f_Party_worksIn (k - 1) 3 s1 = _ from w1, Option.bind_some, Option.bind_some, show f_Party_has (k - 1) 3 s1 = _ from chas_spec (k := 3) (by omega), Option.bind_some]
        simp only [jlet, I1, I_add]
      have em : L_Mod_answer_2 (m + 1) (I k) g1 = Option.bind (L_Mod_answer_12 (I k) jF 1 g1) fun z => L_Mod_answer_2 m (I (k + 1)) z.2 := by
        rw [L_Mod_answer_2, h11, if_neg hlt, show I k + 1 = I (k + 1) from I_add k 1]
        rfl
      have skip : ∃ s2 g2, (1 ≤ k + 1 ∧ FrC [7, 8, 40, 41] s s2 ∧ FrM [29, 32, 33, 40, 41] g g2 ∧ ∃ b', rBo s2 g2 b' ∧ b' ≤ b + 7 * psum s (k + 1 - 1) ∧ rAn s2 g2 γ ∧ rSb s2 g2) ∧ s2 = s1 ∧ g2 = g1 := ⟨s1, g1, ⟨by omega, d1, d2, b1, d3, by rw [show k + 1 - 1 = k from by omega]; omega, d5, d6⟩, rfl, rfl⟩
      rw [ec, em]
      by_cases hw : 3 < U (s1 10 (k - 1) 0)
      · rw [if_pos hw, if_neg (show ¬ I 1 = 0 by decide)]
        rw [if_pos hw] at w2
        by_cases hdu : s1 2 (k - 1) 3 = I 0
        · rw [if_pos hdu, if_neg (show ¬ ¬ I 0 = 0 from fun e => e rfl)]
          have hcb1 : rCb s1 g1 n := by
            unfold rCb at *
            rw [f11, d2 28 (by decide)]; exact hcb
          obtain ⟨s2, g2, b2, x1, ⟨y, x2⟩, x3, x4, x5, x6, x7, x8⟩ := ans_one (i := k) hC1 ⟨d0, by omega⟩ hw hdu d3 (by rw [f11]; omega) d5 hcb1 d6
          rw [f11] at x4
          exact ⟨s2, g2, ⟨by omega, d1.tr x7 (fun _ h => h) (fun _ h => h), d2.tr x8 (fun _ h => h) (fun _ h => h), b2, x3, by rw [show k + 1 - 1 = k from by omega]; omega, x5, x6⟩, by rw [x1]; rfl, by rw [x2]; rfl⟩
        · rw [if_neg hdu, if_pos (show ¬ I 1 = 0 by decide)]
          obtain ⟨s2, g2, inv, rfl, rfl⟩ := skip
          refine ⟨s2, g2, inv, rfl, ?_⟩
          show Option.bind (L_Mod_answer_12 (I k) (3999 + 1) 1 g2) _ = _
          rw [L_Mod_answer_12, h11, if_neg (show ¬ I n < 1 by rw [I1, I_lt (by omega) (by omega)]; omega), show f_Mod_works (I k) 3 g2 = _ from w2, Option.bind_some, if_neg (show ¬ I 1 = 0 by decide), show f_Mod_is (I k) 3 g2 = _ from mis_spec (k := 3) hFa ⟨d0, by omega⟩ (by omega) (by omega), if_neg hdu]
          rfl
      · rw [if_neg hw, if_pos (show I 0 = 0 from rfl)]
        rw [if_neg hw] at w2
        obtain ⟨s2, g2, inv, rfl, rfl⟩ := skip
        refine ⟨s2, g2, inv, rfl, ?_⟩
        show Option.bind (L_Mod_answer_12 (I k) (3999 + 1) 1 g2) _ = _
        rw [L_Mod_answer_12, h11, if_neg (show ¬ I n < 1 by rw [I1, I_lt (by omega) (by omega)]; omega), show f_Mod_works (I k) 3 g2 = _ from w2]
        rfl)
    (fun a m s1 g1 hP => by
      obtain ⟨d0, d1, d2, -⟩ := hP
      obtain ⟨-, ⟨h20, h11, -⟩, -⟩ := hC.fr d1 d2 (by decide) (by decide)
      have hlt : I n < I (n + 1) := by rw [I_lt (by omega) (by omega)]; omega
      rw [L_Room_answerAll_2, L_Mod_answer_2, h20, h11, if_pos hlt, if_pos hlt]
      exact ⟨rfl, rfl⟩) n 1 jF jF s g (by omega) (by unfold jF; omega) (by unfold jF; omega) ⟨by omega, FrC.rf, FrM.rf, b, hB, by omega, h, hsb⟩
  have hpn := hps n hn7
  rw [show n + 1 - 1 = n from by omega] at c4
  refine ⟨s', g', b', ?_, ?_, c3, by omega, c5, c6, c1, c2⟩
  · unfold f_Room_answerAll
    rw [show L_Room_answerAll_2 jF 1 s = _ from e1]; rfl
  · unfold f_Mod_answer
    rw [show L_Mod_answer_2 jF 1 g = _ from e2]; rfl

