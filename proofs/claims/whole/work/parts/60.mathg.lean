/-! ===== digest ===== -/
def EqN (N : Nat) (f g : Nat → Int32) : Prop := ∀ j < N, f j = g j
theorem EqN.up {N : Nat} {f g : Nat → Int32} {k : Nat} {v : Int32} (h : EqN N f g) : EqN N (upd f k v) (upd g k v) := fun j hj => by
  unfold upd; split
  · rfl
  · exact h j hj
theorem last_w : ∀ b < 1051, ((((((jushr (I (b * 8)) (I 24)) &&& 255) <<< (24 &&& 31)) ||| (((jushr (I (b * 8)) (I 16)) &&& 255) <<< (16 &&& 31))) ||| (((jushr (I (b * 8)) (I 8)) &&& 255) <<< (8 &&& 31))) ||| ((jushr (I (b * 8)) (I 0)) &&& 255)) = I (b * 8) := by decide +kernel
/-- a byte of the padded board, both ways -/
theorem pad_eq {s : jU} {g : jS} {b pos x9 : Nat} (hB : rBo s g b) (hx : x9 < 2000) (hp : pos + 4 < x9) : ∃ v, f_Sha_padded (I b) (I pos) s = some v ∧ f_Mod_padded (I pos) (I x9) g = some v := by
  obtain ⟨h41, h40, hb, hby⟩ := hB
  unfold f_Sha_padded f_Mod_padded
  rw [h40]
  by_cases h1 : b ≤ pos
  · have hle : I b ≤ I pos := by rw [I_le (by omega) (by omega)]; exact h1
    rw [if_pos hle, if_pos hle]
    by_cases h2 : pos = b
    · subst h2
      rw [if_neg (fun e => e rfl), if_neg (fun e => e rfl)]
      exact ⟨128, rfl, rfl⟩
    · have hne : ¬ I pos = I b := by rw [I_eq (by omega) (by omega)]; exact h2
      rw [if_pos hne, if_pos hne, I4, I_sub (by omega), if_neg (show ¬ I (x9 - 4) ≤ I pos by rw [I_le (by omega) (by omega)]; omega)]
      exact ⟨0, rfl, rfl⟩
  · have hle : ¬ I b ≤ I pos := by rw [I_le (by omega) (by omega)]; exact h1
    rw [if_neg hle, if_neg hle, if_neg (show ¬ 1050 ≤ I pos by rw [show (1050 : Int32) = I 1050 from rfl, I_le (by omega) (by omega)]; omega), if_pos (show jin (I pos) 1050 by rw [I_jin (by omega)]; omega), if_pos (show jin (I pos) 1100 by rw [I_jin (by omega)]; omega), I_cl (by omega)]
    exact ⟨_, rfl, by rw [hby pos (by omega)]⟩
/-- behind the board, the class has 0 -/
theorem pad_c {s : jU} {b pos : Nat} (h : b < pos) (hb : b ≤ 1050) (hp : pos < 2000) : f_Sha_padded (I b) (I pos) s = some 0 := by
  unfold f_Sha_padded
  rw [if_pos (show I b ≤ I pos by rw [I_le (by omega) (by omega)]; omega), if_pos (show ¬ I pos = I b by rw [I_eq (by omega) (by omega)]; omega)]; rfl
theorem pad_m {g : jS} {b pos x9 : Nat} (h40 : g 40 0 = I b) (hb : b ≤ 1050) (h : b < pos) (hx : x9 < 2000) (hx4 : 4 ≤ x9) (hp : x9 ≤ pos + 4) (hp2 : pos < x9) : f_Mod_padded (I pos) (I x9) g = some ((jushr (I (b * 8)) (I (8 * (x9 - 1 - pos)))) &&& 255) := by
  unfold f_Mod_padded
  rw [h40, if_pos (show I b ≤ I pos by rw [I_le (by omega) (by omega)]; omega), if_pos (show ¬ I pos = I b by rw [I_eq (by omega) (by omega)]; omega), I4, I_sub (by omega), if_pos (show I (x9 - 4) ≤ I pos by rw [I_le (by omega) (by omega)]; omega), I8, I_mul, I1, I_sub (by omega), I_sub (by omega), I_mul]; rfl
/-- the first sixteen words -/
theorem fill_a {s : jU} {g : jS} {b k nb : Nat} (hB : rBo s g b) (hk : k < nb) (hnb : nb < 30) (hb9 : b + 9 ≤ 64 * nb) : ∃ s' g', L_Sha_fillSchedule_3 (I b) (I k) jF 0 s = some (I 16, s') ∧ L_Mod_block_2 (I (64 * k)) (I (64 * nb)) jF 0 g = some (I 16, g') ∧ FrC [42] s s' ∧ FrM [46] g g' ∧ (∀ j < 16, ¬ (k = nb - 1 ∧ j = 15) → s' 42 0 j = g' 46 j) ∧ (k = nb - 1 → g' 46 15 = I (b * 8)) := by
  obtain ⟨h41, h40, hb, hby⟩ := id hB
  obtain ⟨s', g', e1, e2, c1, c2, c3, c4⟩ := loop2 (L_Sha_fillSchedule_3 (I b) (I k)) (L_Mod_block_2 (I (64 * k)) (I (64 * nb))) 16 (fun i s1 g1 => FrC [42] s s1 ∧ FrM [46] g g1 ∧ (∀ j < i, ¬ (k = nb - 1 ∧ j = 15) → s1 42 0 j = g1 46 j) ∧ (k = nb - 1 → 15 < i → g1 46 15 = I (b * 8)))
    (fun a m i s1 g1 hi hP => by
      obtain ⟨d1, d2, d3, d4⟩ := hP
      have hB1 : rBo s1 g1 b := rBo_fr hB d1 d2 (by decide) (by decide)
      have h64 : jin (I i) 64 := by rw [I_jin (by omega)]; omega
      have hc : I k * 64 + 4 * I i = I (64 * k + 4 * i) := by rw [I64, I4, I_mul, I_mul, I_add]; congr 1; omega
      have hm : I (64 * k) + 4 * I i = I (64 * k + 4 * i) := by rw [I4, I_mul, I_add]
      have ad : ∀ x, I (64 * k + 4 * i) + I x = I (64 * k + 4 * i + x) := fun x => I_add _ _
      by_cases hl : k = nb - 1 ∧ i = 15
      · -- the length
        obtain ⟨rfl, rfl⟩ := hl
        have pc : ∀ x < 4, f_Sha_padded (I b) (I (64 * (nb - 1) + 4 * 15 + x)) s1 = some 0 := fun x hx => pad_c (by omega) hb (by omega)
        have pm : ∀ x < 4, f_Mod_padded (I (64 * (nb - 1) + 4 * 15 + x)) (I (64 * nb)) g1 = some ((jushr (I (b * 8)) (I (8 * (3 - x)))) &&& 255) := fun x hx => by
          rw [pad_m hB1.2.1 hb (by omega) (by omega) (by omega) (by omega) (by omega)]
          congr 5; omega
        refine ⟨ups s1 42 0 (upd (s1 42 0) 15 (((((0 : Int32) <<< (24 &&& 31)) ||| ((0 : Int32) <<< (16 &&& 31))) ||| ((0 : Int32) <<< (8 &&& 31))) ||| (0 : Int32))), va_up g1 46 (upd (g1 46) 15 (I (b * 8))), ⟨d1.tr (FrC.up (l := [42]) (by simp)) (fun _ h => h) (fun _ h => h), d2.tr (FrM.up (l := [46]) (by simp)) (fun _ h => h) (fun _ h => h), fun j hj hn => ?_, fun _ _ => by rw [vu_eq, upd_eq]⟩, ?_, ?_⟩
        · rw [ups_eq, vu_eq, upd_ne (by omega), upd_ne (by omega)]; exact d3 j (by omega) hn
        · rw [L_Sha_fillSchedule_3, if_neg (by decide)]
          simp only [jlet]
          rw [hc, show f_Sha_padded (I b) (I (64 * (nb - 1) + 4 * 15)) s1 = _ from pc 0 (by omega), Option.bind_some, I1, I2, I3, ad, ad, ad, pc 1 (by omega), Option.bind_some, pc 2 (by omega), Option.bind_some, pc 3 (by omega), Option.bind_some, if_pos h64, I_cl (by omega), I_add]
        · rw [L_Mod_block_2, if_neg (by decide)]
          simp only [jlet]
          rw [hm, show f_Mod_padded (I (64 * (nb - 1) + 4 * 15)) (I (64 * nb)) g1 = _ from pm 0 (by omega), Option.bind_some, I1, I2, I3, ad, ad, ad, pm 1 (by omega), Option.bind_some, pm 2 (by omega), Option.bind_some, pm 3 (by omega), Option.bind_some, if_pos h64, I_cl (by omega), I_add]
          rw [show 8 * (3 - 0) = 24 from rfl, show 8 * (3 - 1) = 16 from rfl, show 8 * (3 - 2) = 8 from rfl, show 8 * (3 - 3) = 0 from rfl, last_w b (by omega)]
      · have pp : ∀ x < 4, ∃ v, f_Sha_padded (I b) (I (64 * k + 4 * i + x)) s1 = some v ∧ f_Mod_padded (I (64 * k + 4 * i + x)) (I (64 * nb)) g1 = some v := fun x hx => pad_eq hB1 (by omega) (by omega)
        obtain ⟨v0, a0, b0⟩ := pp 0 (by omega)
        obtain ⟨v1, a1, b1⟩ := pp 1 (by omega)
        obtain ⟨v2, a2, b2⟩ := pp 2 (by omega)
        obtain ⟨v3, a3, b3⟩ := pp 3 (by omega)
        refine ⟨ups s1 42 0 (upd (s1 42 0) i ((((v0 <<< (24 &&& 31)) ||| (v1 <<< (16 &&& 31))) ||| (v2 <<< (8 &&& 31))) ||| v3)), va_up g1 46 (upd (g1 46) i ((((v0 <<< (24 &&& 31)) ||| (v1 <<< (16 &&& 31))) ||| (v2 <<< (8 &&& 31))) ||| v3)), ⟨d1.tr (FrC.up (l := [42]) (by simp)) (fun _ h => h) (fun _ h => h), d2.tr (FrM.up (l := [46]) (by simp)) (fun _ h => h) (fun _ h => h), fun j hj hn => ?_, fun h1 h2 => ?_⟩, ?_, ?_⟩
        · rw [ups_eq, vu_eq]
          by_cases e : j = i
          · subst e; rw [upd_eq, upd_eq]
          · rw [upd_ne e, upd_ne e]; exact d3 j (by omega) hn
        · exact absurd ⟨h1, by omega⟩ hl
        · rw [L_Sha_fillSchedule_3, if_neg (show ¬ 16 ≤ I i by rw [I16, I_le (by omega) (by omega)]; omega)]
          simp only [jlet]
          rw [hc, show f_Sha_padded (I b) (I (64 * k + 4 * i)) s1 = _ from a0, Option.bind_some, I1, I2, I3, ad, ad, ad, a1, Option.bind_some, a2, Option.bind_some, a3, Option.bind_some, if_pos h64, I_cl (by omega), I_add]
        · rw [L_Mod_block_2, if_neg (show ¬ 16 ≤ I i by rw [I16, I_le (by omega) (by omega)]; omega)]
          simp only [jlet]
          rw [hm, show f_Mod_padded (I (64 * k + 4 * i)) (I (64 * nb)) g1 = _ from b0, Option.bind_some, I1, I2, I3, ad, ad, ad, b1, Option.bind_some, b2, Option.bind_some, b3, Option.bind_some, if_pos h64, I_cl (by omega), I_add])
    (fun a m s1 g1 hP => by
      rw [L_Sha_fillSchedule_3, L_Mod_block_2, if_pos (by decide), if_pos (by decide)]; exact ⟨rfl, rfl⟩) 16 0 jF jF s g (by omega) (by unfold jF; omega) (by unfold jF; omega) ⟨FrC.rf, FrM.rf, fun j hj => by omega, fun _ h => by omega⟩
  exact ⟨s', g', e1, e2, c1, c2, c3, fun h => c4 h (by omega)⟩
theorem fill_b {s : jU} {g : jS} (h : EqN 16 (s 42 0) (g 46)) : ∃ s' g', L_Sha_fillSchedule_103 jF 16 s = some (I 64, s') ∧ L_Mod_block_76 jF 16 g = some (I 64, g') ∧ FrC [42] s s' ∧ FrM [46] g g' ∧ EqN 64 (s' 42 0) (g' 46) := by
  obtain ⟨s', g', e1, e2, -, c1, c2, c3⟩ := loop2 L_Sha_fillSchedule_103 L_Mod_block_76 64 (fun i s1 g1 => 16 ≤ i ∧ FrC [42] s s1 ∧ FrM [46] g g1 ∧ EqN i (s1 42 0) (g1 46))
    (fun a m i s1 g1 hi hP => by
      obtain ⟨d0, d1, d2, d3⟩ := hP
      have j0 : jin (I i) 64 := by rw [I_jin (by omega)]; omega
      have jx : ∀ x, x ≤ i → jin (I (i - x)) 64 := fun x hx => by rw [I_jin (by omega)]; omega
      have ex : ∀ x, x ≤ i → I i - I x = I (i - x) := fun x hx => I_sub hx
      refine ⟨ups s1 42 0 (upd (s1 42 0) i ((((g1 46 (i - 16)) + (((jushr (g1 46 (i - 15)) 7 ||| (g1 46 (i - 15)) <<< ((32 - 7) &&& 31)) ^^^ (jushr (g1 46 (i - 15)) 18 ||| (g1 46 (i - 15)) <<< ((32 - 18) &&& 31))) ^^^ (jushr (g1 46 (i - 15)) 3))) + (g1 46 (i - 7))) + (((jushr (g1 46 (i - 2)) 17 ||| (g1 46 (i - 2)) <<< ((32 - 17) &&& 31)) ^^^ (jushr (g1 46 (i - 2)) 19 ||| (g1 46 (i - 2)) <<< ((32 - 19) &&& 31))) ^^^ (jushr (g1 46 (i - 2)) 10)))), va_up g1 46 (upd (g1 46) i ((((g1 46 (i - 16)) + (((jushr (g1 46 (i - 15)) 7 ||| (g1 46 (i - 15)) <<< ((32 - 7) &&& 31)) ^^^ (jushr (g1 46 (i - 15)) 18 ||| (g1 46 (i - 15)) <<< ((32 - 18) &&& 31))) ^^^ (jushr (g1 46 (i - 15)) 3))) + (g1 46 (i - 7))) + (((jushr (g1 46 (i - 2)) 17 ||| (g1 46 (i - 2)) <<< ((32 - 17) &&& 31)) ^^^ (jushr (g1 46 (i - 2)) 19 ||| (g1 46 (i - 2)) <<< ((32 - 19) &&& 31))) ^^^ (jushr (g1 46 (i - 2)) 10)))), ⟨by omega, d1.tr (FrC.up (l := [42]) (by simp)) (fun _ h => h) (fun _ h => h), d2.tr (FrM.up (l := [46]) (by simp)) (fun _ h => h) (fun _ h => h), fun j hj => ?_⟩, ?_, ?_⟩
      · rw [ups_eq, vu_eq]
        by_cases e : j = i
        · subst e; rw [upd_eq, upd_eq]
        · rw [upd_ne e, upd_ne e]; exact d3 j (by omega)
      · rw [L_Sha_fillSchedule_103, if_neg (show ¬ 64 ≤ I i by rw [I64, I_le (by omega) (by omega)]; omega), I15, I2, I16, I7, ex 15 (by omega), ex 2 (by omega), ex 16 (by omega), ex 7 (by omega), if_pos (jx 15 (by omega)), I_cl (show i - 15 < 2147483648 by omega), d3 (i - 15) (by omega)]
        simp only [jlet, f_Sha_turn, Option.bind_some]
        rw [if_pos (jx 2 (by omega)), I_cl (show i - 2 < 2147483648 by omega), d3 (i - 2) (by omega), if_pos (jx 16 (by omega)), if_pos (jx 7 (by omega)), if_pos j0, I_cl (show i - 16 < 2147483648 by omega), I_cl (show i - 7 < 2147483648 by omega), I_cl (show i < 2147483648 by omega), d3 (i - 16) (by omega), d3 (i - 7) (by omega), I1, I_add]
      · rw [L_Mod_block_76, if_neg (show ¬ 64 ≤ I i by rw [I64, I_le (by omega) (by omega)]; omega), I15, I2, I16, I7, ex 15 (by omega), ex 2 (by omega), ex 16 (by omega), ex 7 (by omega), if_pos (jx 15 (by omega)), I_cl (show i - 15 < 2147483648 by omega)]
        simp only [jlet, f_Mod_right, Option.bind_some]
        rw [if_pos (jx 2 (by omega)), I_cl (show i - 2 < 2147483648 by omega), if_pos (jx 16 (by omega)), if_pos (jx 7 (by omega)), if_pos j0, I_cl (show i - 16 < 2147483648 by omega), I_cl (show i - 7 < 2147483648 by omega), I_cl (show i < 2147483648 by omega), I1, I_add])
    (fun a m s1 g1 hP => by
      rw [L_Sha_fillSchedule_103, L_Mod_block_76, if_pos (by decide), if_pos (by decide)]; exact ⟨rfl, rfl⟩) 48 16 jF jF s g (by omega) (by unfold jF; omega) (by unfold jF; omega) ⟨by omega, FrC.rf, FrM.rf, h⟩
  exact ⟨s', g', e1, e2, c1, c2, c3⟩
/-- the words move down -/
theorem shift {s : jU} {g : jS} (h : EqN 8 (s 44 0) (g 47)) : ∃ s' g', L_Sha_mix_167 jF 7 s = some (I 0, s') ∧ L_Mod_mix_154 jF 7 g = some (I 0, g') ∧ FrC [44] s s' ∧ FrM [47] g g' ∧ EqN 8 (s' 44 0) (g' 47) := by
  have key : ∀ (i n m : Nat) (s1 : jU) (g1 : jS), i ≤ 7 → i < n → i < m → FrC [44] s s1 → FrM [47] g g1 → EqN 8 (s1 44 0) (g1 47) → ∃ s' g', L_Sha_mix_167 n (I i) s1 = some (I 0, s') ∧ L_Mod_mix_154 m (I i) g1 = some (I 0, g') ∧ FrC [44] s s' ∧ FrM [47] g g' ∧ EqN 8 (s' 44 0) (g' 47) := by
    intro i
    induction i with
    | zero =>
      intro n m s1 g1 _ hn hm a b c
      match n, m, hn, hm with
      | n + 1, m + 1, _, _ =>
        rw [L_Sha_mix_167, L_Mod_mix_154, if_pos (by decide), if_pos (by decide)]
        exact ⟨s1, g1, rfl, rfl, a, b, c⟩
    | succ i ih =>
      intro n m s1 g1 hi hn hm a b c
      match n, m, hn, hm with
      | n + 1, m + 1, hn, hm =>
        have j0 : jin (I (i + 1)) 8 := by rw [I_jin (by omega)]; omega
        have j1 : jin (I i) 8 := by rw [I_jin (by omega)]; omega
        have hle : ¬ I (i + 1) ≤ 0 := by rw [I0, I_le (by omega) (by omega)]; omega
        rw [L_Sha_mix_167, L_Mod_mix_154, if_neg hle, if_neg hle, I_m2, if_pos j1, if_pos j1, if_pos j0, if_pos j0, I_cl (show i < 2147483648 by omega), I_cl (show i + 1 < 2147483648 by omega), c i (by omega)]
        simp only [jlet]
        rw [I_m3, I_m2]
        refine ih n m _ _ (by omega) (by omega) (by omega) (a.tr (FrC.up (l := [44]) (by simp)) (fun _ h => h) (fun _ h => h)) (b.tr (FrM.up (l := [47]) (by simp)) (fun _ h => h) (fun _ h => h)) ?_
        rw [ups_eq, vu_eq]; exact c.up
  exact key 7 jF jF s g (by omega) (by unfold jF; omega) (by unfold jF; omega) FrC.rf FrM.rf h
def mS1 (w : Nat → Int32) : Int32 := ((((jushr (w 4) 6) ||| ((w 4) <<< ((32 - 6) &&& 31))) ^^^ ((jushr (w 4) 11) ||| ((w 4) <<< ((32 - 11) &&& 31)))) ^^^ ((jushr (w 4) 25) ||| ((w 4) <<< ((32 - 25) &&& 31))))
def mS0 (w : Nat → Int32) : Int32 := ((((jushr (w 0) 2) ||| ((w 0) <<< ((32 - 2) &&& 31))) ^^^ ((jushr (w 0) 13) ||| ((w 0) <<< ((32 - 13) &&& 31)))) ^^^ ((jushr (w 0) 22) ||| ((w 0) <<< ((32 - 22) &&& 31))))
def mCh (w : Nat → Int32) : Int32 := (((w 4) &&& (w 5)) ^^^ (((w 4) ^^^ (-1 : Int32)) &&& (w 6)))
def mMj (w : Nat → Int32) : Int32 := ((((w 0) &&& (w 1)) ^^^ ((w 0) &&& (w 2))) ^^^ ((w 1) &&& (w 2)))
def mX (w : Nat → Int32) (k z : Int32) : Int32 := ((((w 7) + mS1 w) + mCh w) + k) + z
def mY (w : Nat → Int32) (x : Int32) : Int32 := (x + mS0 w) + mMj w
theorem mix_cg {v w : Nat → Int32} (h : EqN 8 v w) : mS1 v = mS1 w ∧ mS0 v = mS0 w ∧ mCh v = mCh w ∧ mMj v = mMj w ∧ v 7 = w 7 := by
  unfold mS1 mS0 mCh mMj
  rw [h 0 (by omega), h 1 (by omega), h 2 (by omega), h 4 (by omega), h 5 (by omega), h 6 (by omega), h 7 (by omega)]
  exact ⟨rfl, rfl, rfl, rfl, rfl⟩
theorem j8 : jin 0 8 ∧ jin 1 8 ∧ jin 2 8 ∧ jin 4 8 ∧ jin 5 8 ∧ jin 6 8 ∧ jin 7 8 := by decide
theorem mix_c {s1 s2 : jU} {a i : Nat} (hi : i < 64) (r1 : L_Sha_mix_167 jF 7 s1 = some (I 0, s2)) : L_Sha_mix_17 (a + 1) (I i) s1 = L_Sha_mix_17 a (I (i + 1)) (ups (ups s2 44 0 (upd (s2 44 0) 4 (s2 44 0 4 + mX (s1 44 0) (jTabK i) (s1 42 0 i)))) 44 0 (upd (upd (s2 44 0) 4 (s2 44 0 4 + mX (s1 44 0) (jTabK i) (s1 42 0 i))) 0 (mY (s1 44 0) (mX (s1 44 0) (jTabK i) (s1 42 0 i))))) := by
  have j0 : jin (I i) 64 := by rw [I_jin (by omega)]; omega
  obtain ⟨q0, q1, q2, q4, q5, q6, q7⟩ := j8
  rw [L_Sha_mix_17, if_neg (show ¬ 64 ≤ I i by rw [I64, I_le (by omega) (by omega)]; omega)]
  simp only [jlet, f_Sha_turn, Option.bind_some]
  rw [if_pos q0, if_pos q4, if_pos q5, if_pos q6, if_pos q1, if_pos q2, if_pos q1, if_pos q2, if_pos q7, if_pos j0, if_pos j0, r1, Option.bind_some]
  simp only
  rw [if_pos q4, if_pos q4, if_pos q0, ups_eq, show I i + 1 = I (i + 1) from I_add i 1, I_cl (show i < 2147483648 by omega)]
  rfl
theorem mix_m {g1 g2 : jS} {i : Nat} (hi : i < 64) (hT : RelT g1) (r2 : L_Mod_mix_154 jF 7 g1 = some (I 0, g2)) : f_Mod_mix (I i) g1 = some (va_up (va_up g2 47 (upd (g2 47) 4 (g2 47 4 + mX (g1 47) (jTabK i) (g1 46 i)))) 47 (upd (upd (g2 47) 4 (g2 47 4 + mX (g1 47) (jTabK i) (g1 46 i))) 0 (mX (g1 47) (jTabK i) (g1 46 i) + (mS0 (g1 47) + mMj (g1 47))))) := by
  have j0 : jin (I i) 64 := by rw [I_jin (by omega)]; omega
  obtain ⟨q0, q1, q2, q4, q5, q6, q7⟩ := j8
  have hKt : (if 32 ≤ I i then if jin (I i - 32) 32 then some (g1 43 (I i - 32).toNatClampNeg) else none else if jin (I i) 32 then some (g1 42 (I i).toNatClampNeg) else none) = some (jTabK i) := by
    by_cases h32 : 32 ≤ i
    · rw [if_pos (show 32 ≤ I i by rw [show (32 : Int32) = I 32 from rfl, I_le (by omega) (by omega)]; exact h32), show (32 : Int32) = I 32 from rfl, I_sub h32, if_pos (show jin (I (i - 32)) 32 by rw [I_jin (by omega)]; omega), I_cl (by omega), (hT.2.2.2.1 (i - 32) (by omega)).2, show 32 + (i - 32) = i from by omega]
    · rw [if_neg (show ¬ 32 ≤ I i by rw [show (32 : Int32) = I 32 from rfl, I_le (by omega) (by omega)]; exact h32), if_pos (show jin (I i) 32 by rw [I_jin (by omega)]; omega), I_cl (by omega), (hT.2.2.2.1 i (by omega)).1]
  unfold f_Mod_mix
  simp only [jlet, f_Mod_right, Option.bind_some]
  rw [if_pos q4, if_pos q0, if_pos q7, if_pos q5, if_pos q6, hKt, Option.bind_some, if_pos j0, if_pos q1, if_pos q2, if_pos q1, if_pos q2, r2, Option.bind_some]
  simp only
  rw [if_pos q4, if_pos q4, if_pos q0, vu_eq, I_cl (show i < 2147483648 by omega)]
  rfl
theorem mixes {s : jU} {g : jS} (hT : RelT g) (hW : EqN 64 (s 42 0) (g 46)) (h : EqN 8 (s 44 0) (g 47)) : ∃ s' g', L_Sha_mix_17 jF 0 s = some (I 64, s') ∧ L_Mod_block_205 jF 0 g = some (I 64, g') ∧ FrC [44] s s' ∧ FrM [47] g g' ∧ EqN 8 (s' 44 0) (g' 47) := by
  obtain ⟨s', g', e1, e2, c1, c2, c3⟩ := loop2 L_Sha_mix_17 L_Mod_block_205 64 (fun i s1 g1 => FrC [44] s s1 ∧ FrM [47] g g1 ∧ EqN 8 (s1 44 0) (g1 47))
    (fun a m i s1 g1 hi hP => by
      obtain ⟨d1, d2, d3⟩ := hP
      obtain ⟨s2, g2, r1, r2, r3, r4, r5⟩ := shift d3
      have hw : s1 42 0 i = g1 46 i := by rw [d1 42 (by decide), d2 46 (by decide)]; exact hW i hi
      obtain ⟨k1, k2, k3, k4, k5⟩ := mix_cg d3
      have kX : mX (s1 44 0) (jTabK i) (s1 42 0 i) = mX (g1 47) (jTabK i) (g1 46 i) := by unfold mX; rw [k1, k3, k5, hw]
      have kY : mY (s1 44 0) (mX (s1 44 0) (jTabK i) (s1 42 0 i)) = mX (g1 47) (jTabK i) (g1 46 i) + (mS0 (g1 47) + mMj (g1 47)) := by
        rw [kX]; unfold mY; rw [k2, k4, Int32.add_assoc]
      have ec := mix_c (a := a) hi r1
      rw [kY, kX] at ec
      have em : L_Mod_block_205 (m + 1) (I i) g1 = L_Mod_block_205 m (I (i + 1)) (va_up (va_up g2 47 (upd (g2 47) 4 (g2 47 4 + mX (g1 47) (jTabK i) (g1 46 i)))) 47 (upd (upd (g2 47) 4 (g2 47 4 + mX (g1 47) (jTabK i) (g1 46 i))) 0 (mX (g1 47) (jTabK i) (g1 46 i) + (mS0 (g1 47) + mMj (g1 47))))) := by
        rw [L_Mod_block_205, if_neg (show ¬ 64 ≤ I i by rw [I64, I_le (by omega) (by omega)]; omega), mix_m hi (RelT_fr hT d2 (by decide)) r2, Option.bind_some]
        simp only [jlet]
        rw [show I i + 1 = I (i + 1) from I_add i 1]
      generalize mX (g1 47) (jTabK i) (g1 46 i) = X at ec em
      generalize X + (mS0 (g1 47) + mMj (g1 47)) = Y at ec em
      refine ⟨_, _, ⟨?_, ?_, ?_⟩, ec, em⟩
      · exact ((d1.tr r3 (fun _ h => h) (fun _ h => h) (l := [44])).tr (FrC.up (l := [44]) (by simp)) (fun _ h => h) (fun _ h => h)).tr (FrC.up (l := [44]) (by simp)) (fun _ h => h) (fun _ h => h)
      · exact ((d2.tr r4 (fun _ h => h) (fun _ h => h) (l := [47])).tr (FrM.up (l := [47]) (by simp)) (fun _ h => h) (fun _ h => h)).tr (FrM.up (l := [47]) (by simp)) (fun _ h => h) (fun _ h => h)
      · rw [ups_eq, vu_eq, r5 4 (by omega)]; exact r5.up.up)
    (fun a m s1 g1 hP => by
      rw [L_Sha_mix_17, L_Mod_block_205, if_pos (by decide), if_pos (by decide)]; exact ⟨rfl, rfl⟩) 64 0 jF jF s g (by omega) (by unfold jF; omega) (by unfold jF; omega) ⟨FrC.rf, FrM.rf, h⟩
  exact ⟨s', g', e1, e2, c1, c2, c3⟩
theorem addup {s : jU} {g : jS} (h : EqN 8 (s 43 0) (g 44)) (k : EqN 8 (s 44 0) (g 47)) : ∃ s' g', L_Sha_mix_227 jF 0 s = some (I 8, s') ∧ L_Mod_block_224 jF 0 g = some (I 8, g') ∧ FrC [43] s s' ∧ FrM [44] g g' ∧ EqN 8 (s' 43 0) (g' 44) := by
  obtain ⟨s', g', e1, e2, c1, c2, c3⟩ := loop2 L_Sha_mix_227 L_Mod_block_224 8 (fun i s1 g1 => FrC [43] s s1 ∧ FrM [44] g g1 ∧ EqN 8 (s1 43 0) (g1 44))
    (fun a m i s1 g1 hi hP => by
      obtain ⟨d1, d2, d3⟩ := hP
      have j0 : jin (I i) 8 := by rw [I_jin (by omega)]; omega
      have hle : ¬ 8 ≤ I i := by rw [I8, I_le (by omega) (by omega)]; omega
      refine ⟨ups s1 43 0 (upd (s1 43 0) i (g1 44 i + g 47 i)), va_up g1 44 (upd (g1 44) i (g1 44 i + g 47 i)), ⟨d1.tr (FrC.up (l := [43]) (by simp)) (fun _ h => h) (fun _ h => h), d2.tr (FrM.up (l := [44]) (by simp)) (fun _ h => h) (fun _ h => h), ?_⟩, ?_, ?_⟩
      · rw [ups_eq, vu_eq]; exact d3.up
      · rw [L_Sha_mix_227, if_neg hle, if_pos j0, if_pos j0, if_pos j0, I_cl (by omega), d3 i hi, d1 44 (by decide), k i hi]
        simp only [jlet]
        rw [I1, I_add]
      · rw [L_Mod_block_224, if_neg hle, if_pos j0, if_pos j0, if_pos j0, I_cl (by omega), d2 47 (by decide)]
        simp only [jlet]
        rw [I1, I_add])
    (fun a m s1 g1 hP => by
      rw [L_Sha_mix_227, L_Mod_block_224, if_pos (by decide), if_pos (by decide)]; exact ⟨rfl, rfl⟩) 8 0 jF jF s g (by omega) (by unfold jF; omega) (by unfold jF; omega) ⟨FrC.rf, FrM.rf, h⟩
  exact ⟨s', g', e1, e2, c1, c2, c3⟩
theorem copyw (g : jS) : ∃ g', L_Mod_block_179 jF 0 g = some (I 8, g') ∧ FrM [47] g g' ∧ EqN 8 (g' 47) (g 44) := by
  obtain ⟨g', e, c1, c2⟩ := loopU L_Mod_block_179 8 (fun i g1 => FrM [47] g g1 ∧ ∀ j < i, g1 47 j = g 44 j)
    (fun n i g1 hi hP => by
      obtain ⟨d1, d2⟩ := hP
      have j0 : jin (I i) 8 := by rw [I_jin (by omega)]; omega
      refine ⟨va_up g1 47 (upd (g1 47) i (g 44 i)), ⟨d1.tr (FrM.up (l := [47]) (by simp)) (fun _ h => h) (fun _ h => h), fun j hj => ?_⟩, ?_⟩
      · rw [vu_eq]
        by_cases e : j = i
        · subst e; rw [upd_eq]
        · rw [upd_ne e]; exact d2 j (by omega)
      · rw [L_Mod_block_179, if_neg (show ¬ 8 ≤ I i by rw [I8, I_le (by omega) (by omega)]; omega), if_pos j0, if_pos j0, I_cl (by omega), d1 44 (by decide)]
        simp only [jlet]
        rw [I1, I_add])
    (fun n g1 hP => by rw [L_Mod_block_179, if_pos (by decide)]) 8 0 jF g (by omega) (by unfold jF; omega) ⟨FrM.rf, fun j hj => by omega⟩
  exact ⟨g', e, c1, c2⟩
theorem copys (g : jS) : ∃ g', L_Mod_digest_47 jF 0 g = some (I 8, g') ∧ FrM [44] g g' ∧ EqN 8 (g' 44) (g 45) := by
  obtain ⟨g', e, c1, c2⟩ := loopU L_Mod_digest_47 8 (fun i g1 => FrM [44] g g1 ∧ ∀ j < i, g1 44 j = g 45 j)
    (fun n i g1 hi hP => by
      obtain ⟨d1, d2⟩ := hP
      have j0 : jin (I i) 8 := by rw [I_jin (by omega)]; omega
      refine ⟨va_up g1 44 (upd (g1 44) i (g 45 i)), ⟨d1.tr (FrM.up (l := [44]) (by simp)) (fun _ h => h) (fun _ h => h), fun j hj => ?_⟩, ?_⟩
      · rw [vu_eq]
        by_cases e : j = i
        · subst e; rw [upd_eq]
        · rw [upd_ne e]; exact d2 j (by omega)
      · rw [L_Mod_digest_47, if_neg (show ¬ 8 ≤ I i by rw [I8, I_le (by omega) (by omega)]; omega), if_pos j0, if_pos j0, I_cl (by omega), d1 45 (by decide)]
        simp only [jlet]
        rw [I1, I_add])
    (fun n g1 hP => by rw [L_Mod_digest_47, if_pos (by decide)]) 8 0 jF g (by omega) (by unfold jF; omega) ⟨FrM.rf, fun j hj => by omega⟩
  exact ⟨g', e, c1, c2⟩
/-- one block -/
theorem block_eq {s : jU} {g : jS} {b k nb : Nat} (hT : RelT g) (hB : rBo s g b) (hk : k < nb) (hnb : nb < 30) (hb9 : b + 9 ≤ 64 * nb) (h : EqN 8 (s 43 0) (g 44)) : ∃ s' g', (Option.bind (f_Sha_fillSchedule (I b) (I k) (I nb) s) fun s18 => f_Sha_mix s18) = some s' ∧ f_Mod_block (I (64 * k)) (I (64 * nb)) g = some g' ∧ FrC [42, 43, 44] s s' ∧ FrM [44, 46, 47] g g' ∧ EqN 8 (s' 43 0) (g' 44) := by
  have hb := hB.2.2.1
  obtain ⟨s1, g1, a1, a2, a3, a4, a5, a6⟩ := fill_a hB hk hnb hb9
  -- the length's word
  have hfix : ∃ s2, (if ¬ I k = (I nb - 1) then some s1 else if jin 15 64 then jlet (ups s1 42 0 (upd (s1 42 0) (15 : Int32).toNatClampNeg (I b * 8))) fun s32 => some s32 else none) = some s2 ∧ FrC [42] s1 s2 ∧ EqN 16 (s2 42 0) (g1 46) := by
    rw [I1, I_sub (by omega)]
    by_cases hl : k = nb - 1
    · rw [if_neg (show ¬ ¬ I k = I (nb - 1) from fun e => e (by rw [hl])), if_pos (show jin 15 64 by decide)]
      refine ⟨_, rfl, FrC.up (by simp), fun j hj => ?_⟩
      rw [ups_eq]
      by_cases e : j = 15
      · subst e
        show upd (s1 42 0) 15 (I b * 8) 15 = _
        rw [upd_eq, a6 hl, I8, I_mul]
      · show upd (s1 42 0) 15 (I b * 8) j = _
        rw [upd_ne e]; exact a5 j hj (fun h => e h.2)
    · rw [if_pos (show ¬ I k = I (nb - 1) by rw [I_eq (by omega) (by omega)]; exact hl)]
      exact ⟨s1, rfl, FrC.rf, fun j hj => a5 j hj (fun h => hl h.1)⟩
  obtain ⟨s2, f1, f2, f3⟩ := hfix
  obtain ⟨s3, g3, b1, b2, b3, b4, b5⟩ := fill_b f3
  have F3 : FrC [42] s s3 := (a3.tr f2 (fun _ h => h) (fun _ h => h) (l := [42])).tr b3 (fun _ h => h) (fun _ h => h)
  have G3 : FrM [46] g g3 := a4.tr b4 (fun _ h => h) (fun _ h => h)
  obtain ⟨g4, c1, c2, c3⟩ := copyw g3
  have G4 : FrM [46, 47] g g4 := G3.tr c2 (by decide) (by decide)
  have F4 : FrC [42, 44] s (ups s3 44 0 (va_cpy (s3 43 0) (s3 44 0) (0 : Int32).toNatClampNeg (0 : Int32).toNatClampNeg (8 : Int32).toNatClampNeg)) := F3.tr (FrC.up (l := [44]) (by simp)) (by decide) (by decide)
  have hwork : EqN 8 (ups s3 44 0 (va_cpy (s3 43 0) (s3 44 0) (0 : Int32).toNatClampNeg (0 : Int32).toNatClampNeg (8 : Int32).toNatClampNeg) 44 0) (g4 47) := fun j hj => by
    rw [ups_eq, c3 j hj, G3 44 (by decide)]
    show (if 0 ≤ j ∧ j < 0 + 8 then s3 43 0 (0 + (j - 0)) else _) = _
    rw [if_pos (by omega), show 0 + (j - 0) = j from by omega, F3 43 (by decide)]
    exact h j hj
  obtain ⟨s5, g5, d1, d2, d3, d4, d5⟩ := mixes (s := ups s3 44 0 (va_cpy (s3 43 0) (s3 44 0) (0 : Int32).toNatClampNeg (0 : Int32).toNatClampNeg (8 : Int32).toNatClampNeg)) (g := g4) (RelT_fr hT G4 (by decide)) (fun j hj => by
    rw [ups_nK (by decide), c2 46 (by decide)]; exact b5 j hj) hwork
  have F5 : FrC [42, 44] s s5 := F4.tr d3 (fun _ h => h) (by decide)
  have G5 : FrM [46, 47] g g5 := G4.tr d4 (fun _ h => h) (by decide)
  obtain ⟨s6, g6, x1, x2, x3, x4, x5⟩ := addup (s := s5) (g := g5) (fun j hj => by rw [F5 43 (by decide), G5 44 (by decide)]; exact h j hj) d5
  refine ⟨s6, g6, ?_, ?_, F5.tr x3 (by decide) (by decide), G5.tr x4 (by decide) (by decide), x5⟩
  · unfold f_Sha_fillSchedule f_Sha_mix
    rw [show L_Sha_fillSchedule_3 (I b) (I k) jF 0 s = _ from a1, Option.bind_some]
    simp only
    rw [f1, Option.bind_some, show L_Sha_fillSchedule_103 jF 16 s2 = _ from b1, Option.bind_some]
    simp only [Option.bind_some, jlet]
    rw [if_pos (show jin 8 9 by decide), show L_Sha_mix_17 jF 0 _ = _ from d1, Option.bind_some]
    simp only
    rw [show L_Sha_mix_227 jF 0 s5 = _ from x1]; rfl
  · unfold f_Mod_block
    rw [show L_Mod_block_2 (I (64 * k)) (I (64 * nb)) jF 0 g = _ from a2, Option.bind_some]
    simp only
    rw [show L_Mod_block_76 jF 16 g1 = _ from b2, Option.bind_some]
    simp only
    rw [show L_Mod_block_179 jF 0 g3 = _ from c1, Option.bind_some]
    simp only
    rw [show L_Mod_block_205 jF 0 g4 = _ from d2, Option.bind_some]
    simp only
    rw [show L_Mod_block_224 jF 0 g5 = _ from x2]; rfl
theorem blocks_eq {s : jU} {g : jS} {b nb : Nat} (hT : RelT g) (hB : rBo s g b) (hnb : nb < 30) (hb9 : b + 9 ≤ 64 * nb) : ∀ (d k n m : Nat) (s1 : jU) (g1 : jS), k + d = nb → d < n → d < m → FrC [42, 43, 44] s s1 → FrM [44, 46, 47] g g1 → EqN 8 (s1 43 0) (g1 44) → ∃ y z s' g', L_Sha_wordOf_31 (I b) (I nb) n (I k) s1 = some (y, s') ∧ L_Mod_digest_73 (I (64 * nb)) m (I (64 * k)) g1 = some (z, g') ∧ FrC [42, 43, 44] s s' ∧ FrM [44, 46, 47] g g' ∧ EqN 8 (s' 43 0) (g' 44) := by
  intro d
  induction d with
  | zero =>
    intro k n m s1 g1 hk hn hm a c h
    match n, m, hn, hm with
    | n + 1, m + 1, _, _ =>
      have e : k = nb := by omega
      subst e
      rw [L_Sha_wordOf_31, L_Mod_digest_73, if_pos (Int32.le_refl _), if_pos (Int32.le_refl _)]
      exact ⟨_, _, s1, g1, rfl, rfl, a, c, h⟩
  | succ d ih =>
    intro k n m s1 g1 hk hn hm a c h
    match n, m, hn, hm with
    | n + 1, m + 1, hn, hm =>
      obtain ⟨s2, g2, r1, r2, r3, r4, r5⟩ := block_eq (k := k) (RelT_fr hT c (by decide)) (rBo_fr hB a c (by decide) (by decide)) (by omega) hnb hb9 h
      rw [L_Sha_wordOf_31, L_Mod_digest_73, if_neg (show ¬ I nb ≤ I k by rw [I_le (by omega) (by omega)]; omega), if_neg (show ¬ I (64 * nb) ≤ I (64 * k) by rw [I_le (by omega) (by omega)]; omega), r2, Option.bind_some, ← Option.bind_assoc, r1, Option.bind_some]
      simp only [jlet]
      rw [show I k + 1 = I (k + 1) from I_add k 1, show I (64 * k) + 64 = I (64 * (k + 1)) from by rw [I64, I_add]; rfl]
      exact ih (k + 1) n m s2 g2 (by omega) (by omega) (by omega) (a.tr r3 (fun _ h => h) (fun _ h => h)) (c.tr r4 (fun _ h => h) (fun _ h => h)) r5
theorem Rel_fr3 {s s' : jU} {g g' : jS} (h : Rel s g) (a : FrC [42, 43, 44] s s') (b : FrM [0, 44, 46, 47] g g') : Rel s' g' := by
  have a' : ∀ K, K ≠ 42 → K ≠ 43 → K ≠ 44 → s' K = s K := fun K h1 h2 h3 => a K (by simp; omega)
  have b' : ∀ K, K ≠ 0 → K ≠ 44 → K ≠ 46 → K ≠ 47 → g' K = g K := fun K h1 h2 h3 h4 => b K (by simp; omega)
  unfold Rel RelP RelT Rel0 RelR rSc rCz rCo rFa rCr rEl rNu rCm rSh rMa rKe rBo rRo ctot at *
  simp (disch := decide) only [a', b']
  exact h
theorem fa_digest {s : jU} {g : jS} (h : Rel s g) (x : Int32) : FaI Rel [(xB, 1)] s (f_SR_digest x s) (f_Mod_digest x g) := by
  have e : ∃ b, rBo s g b := by
    rcases h.2.2 with hR | ⟨st, r, γ, n, t, n0, t0, dm, em, b, -, -, -, -, -, -, -, -, -, -, hB, -⟩
    · exact ⟨_, hR.2.2.2.2.2.2.2⟩
    · exact ⟨_, hB⟩
  obtain ⟨b, hB⟩ := e
  obtain ⟨h41, h40, hb, hby⟩ := id hB
  unfold FaI f_SR_digest f_Mod_digest
  rcases I_cases x with hx | ⟨a, rfl, ha⟩
  · right
    rw [if_pos hx, if_pos hx]
    exact ⟨xB, 1, 0, va_up g 0 (fun _ => 1), by simp, rfl, rfl, rfl, Rel_0 _ h⟩
  · have h0 : ¬ I a < 0 := by rw [I0, I_lt (by omega) (by omega)]; omega
    rw [if_neg h0, if_neg h0]
    by_cases h8 : a < 8
    · left
      rw [if_pos (show I a < 8 by rw [I8, I_lt (by omega) (by omega)]; exact h8), if_pos (show I a ≤ 7 by rw [I7, I_le (by omega) (by omega)]; omega)]
      obtain ⟨g1, e1, e2, e3⟩ := copys (va_up g 0 (fun _ => 0))
      have F0 : FrC [42, 43, 44] s (ups s 43 0 (va_cpy jTabS (s 43 0) (0 : Int32).toNatClampNeg (0 : Int32).toNatClampNeg (8 : Int32).toNatClampNeg)) := FrC.up (by simp)
      have G0 : FrM [44, 46, 47] (va_up g 0 (fun _ => 0)) g1 := e2.tr (FrM.rf (l := [])) (by decide) (by decide)
      have hnb : (b + 9 + 63) / 64 < 30 := by omega
      obtain ⟨y, z, s', g', r1, r2, r3, r4, r5⟩ := blocks_eq (s := s) (g := va_up g 0 (fun _ => 0)) (b := b) (nb := (b + 9 + 63) / 64) h.2.1 hB hnb (by omega) ((b + 9 + 63) / 64) 0 jF jF (ups s 43 0 (va_cpy jTabS (s 43 0) (0 : Int32).toNatClampNeg (0 : Int32).toNatClampNeg (8 : Int32).toNatClampNeg)) g1 (by omega) (by unfold jF; omega) (by unfold jF; omega) F0 G0 (fun j hj => by
        rw [ups_eq, e3 j hj, show va_up g 0 (fun _ => (0 : Int32)) 45 = g 45 from rfl, h.2.1.2.2.2.2 j hj]
        show (if 0 ≤ j ∧ j < 0 + 8 then jTabS (0 + (j - 0)) else _) = _
        rw [if_pos (by omega), show 0 + (j - 0) = j from by omega])
      have hj8 : jin (I a) 8 := by rw [I_jin (by omega)]; exact h8
      refine ⟨g' 44 a, s', g', ?_, ?_, ?_, ?_⟩
      · unfold f_Board_digestWord f_Sha_wordOf
        rw [h41, if_pos (show jin 8 9 by decide)]
        simp only [jlet]
        rw [show ((I b + 9 + 64 - 1) / 64 : Int32) = I ((b + 9 + 63) / 64) from by
          rw [I9, I_add, I64, I_add, I1, I_sub (by omega), I_div (by omega) (by omega)]; congr 1, show L_Sha_wordOf_31 (I b) (I ((b + 9 + 63) / 64)) jF 0 _ = _ from r1, Option.bind_some]
        simp only
        rw [if_pos hj8, I_cl (by omega), r5 a h8]; rfl
      · simp only [Option.bind_some, jlet]
        rw [if_pos (show va_up g 0 (fun _ => (0 : Int32)) 0 0 ≤ 0 from le00), show va_up g 0 (fun _ => (0 : Int32)) 40 0 = I b from h40, show ((I b + 9 + 63) / 64 * 64 : Int32) = I (64 * ((b + 9 + 63) / 64)) from by
          rw [I9, I_add, I63, I_add, I64, I_div (by omega) (by omega), I_mul]; congr 1; omega, show L_Mod_digest_47 jF 0 (va_up g 0 (fun _ => 0)) = _ from e1, Option.bind_some]
        simp only
        rw [show L_Mod_digest_73 (I (64 * ((b + 9 + 63) / 64))) jF 0 g1 = _ from r2, Option.bind_some]
        simp only
        rw [if_pos hj8, I_cl (by omega)]
      · show some (g' 0 0) = _
        rw [r4 0 (by decide)]; rfl
      · exact Rel_fr3 h r3 ((FrM.up (l := [0, 44, 46, 47]) (K := 0) (by simp)).tr r4 (fun _ h => h) (by simp))
    · right
      rw [if_neg (show ¬ I a < 8 by rw [I8, I_lt (by omega) (by omega)]; exact h8), if_neg (show ¬ I a ≤ 7 by rw [I7, I_le (by omega) (by omega)]; omega)]
      exact ⟨xB, 1, 0, va_up g 0 (fun _ => 1), by simp, rfl, rfl, rfl, Rel_0 _ h⟩

/-! ===== the beginning ===== -/
theorem sq_ne : ∀ j < 515, 4 ^ j % 2039 ≠ 9 := by decide +kernel
theorem sq_515 : 4 ^ 515 % 2039 = 9 := by decide +kernel
theorem cv_ne : ∀ j < 4, crv j ≠ 1362 := by decide +kernel
theorem cv_add : ∀ i < 30, (1 ≤ i → f_Mod_added (I (crv i)) = some (I (crv (i + 1)))) := by decide +kernel
theorem in_sq (g : jS) : ∃ y g', L_Mod_init_647 jF 1 0 g = some (y, I 1019, g') ∧ FrM [6] g g' ∧ ∀ e < 1019, g' 6 e = I (4 ^ e % 2039) := by
  have key : ∀ (d i n : Nat) (g1 : jS), i + d = 1019 → d < n → FrM [6] g g1 → (∀ e < i, g1 6 e = I (4 ^ e % 2039)) → ∃ y g', L_Mod_init_647 n (I (4 ^ i % 2039)) (I i) g1 = some (y, I 1019, g') ∧ FrM [6] g g' ∧ ∀ e < 1019, g' 6 e = I (4 ^ e % 2039) := by
    intro d
    induction d with
    | zero =>
      intro i n g1 hi hn hF hV
      match n, hn with
      | n + 1, _ =>
        have e : i = 1019 := by omega
        subst e
        rw [L_Mod_init_647, if_pos (by decide)]
        exact ⟨_, g1, rfl, hF, hV⟩
    | succ d ih =>
      intro i n g1 hi hn hF hV
      match n, hn with
      | n + 1, hn =>
        have hl : 4 ^ i % 2039 < 2039 := Nat.mod_lt _ (by decide)
        rw [L_Mod_init_647, if_neg (show ¬ 1019 ≤ I i by rw [I1019, I_le (by omega) (by omega)]; omega), if_pos (show jin (I i) 1019 by rw [I_jin (by omega)]; omega), I_cl (by omega)]
        simp only [jlet]
        rw [I4, I2039, I_mul, I_rem (by omega) (by omega), I1, I_add, Nat.mod_mul_mod, ← Nat.pow_succ]
        refine ih (i + 1) n _ (by omega) (by omega) (hF.tr (FrM.up (l := [6]) (by simp)) (fun _ h => h) (fun _ h => h)) (fun e he => ?_)
        rw [vu_eq]
        by_cases ee : e = i
        · subst ee; rw [upd_eq]
        · rw [upd_ne ee]; exact hV e (by omega)
  exact key 1019 0 jF g (by omega) (by unfold jF; omega) FrM.rf (fun e he => by omega)
theorem in_cv {g : jS} (h0 : g 7 0 = I (crv 0)) (h1 : g 7 1 = I (crv 1)) : ∃ g', L_Mod_init_695 jF 2 g = some (I 31, g') ∧ FrM [7] g g' ∧ ∀ e < 31, g' 7 e = I (crv e) := by
  obtain ⟨g', e, -, c1, c2⟩ := loopU L_Mod_init_695 31 (fun i g1 => 2 ≤ i ∧ FrM [7] g g1 ∧ ∀ e < i, g1 7 e = I (crv e))
    (fun n i g1 hi hP => by
      obtain ⟨d0, d1, d2⟩ := hP
      have ha := cv_add (i - 1) (by omega) (by omega)
      rw [show i - 1 + 1 = i from by omega] at ha
      refine ⟨va_up g1 7 (upd (g1 7) i (I (crv i))), ⟨by omega, d1.tr (FrM.up (l := [7]) (by simp)) (fun _ h => h) (fun _ h => h), fun e he => ?_⟩, ?_⟩
      · rw [vu_eq]
        by_cases ee : e = i
        · subst ee; rw [upd_eq]
        · rw [upd_ne ee]; exact d2 e (by omega)
      · rw [L_Mod_init_695, if_neg (show ¬ 31 ≤ I i by rw [I31, I_le (by omega) (by omega)]; omega), show I i - 1 = I (i - 1) from by rw [I1, I_sub (by omega)], if_pos (show jin (I (i - 1)) 31 by rw [I_jin (by omega)]; omega), I_cl (by omega), d2 (i - 1) (by omega), ha, Option.bind_some, if_pos (show jin (I i) 31 by rw [I_jin (by omega)]; omega), I_cl (by omega)]
        simp only [jlet]
        rw [I1, I_add])
    (fun n g1 hP => by rw [L_Mod_init_695, if_pos (by decide)]) 29 2 jF g (by omega) (by unfold jF; omega) ⟨by omega, FrM.rf, fun e he => by
      match e, he with
      | 0, _ => exact h0
      | 1, _ => exact h1⟩
  exact ⟨g', e, c1, c2⟩
theorem in_h0 {g : jS} (h6 : ∀ e < 1019, g 6 e = I (4 ^ e % 2039)) (h8 : g 8 0 = I 0) : ∃ g', L_Mod_init_724 jF g = some g' ∧ FrM [8] g g' ∧ g' 8 0 = I (hh 0) ∧ g' 8 1 = g 8 1 := by
  have key : ∀ (d i n : Nat) (g1 : jS), i + d = 515 → d < n → FrM [8] g g1 → g1 8 0 = I i → g1 8 1 = g 8 1 → ∃ g', L_Mod_init_724 n g1 = some g' ∧ FrM [8] g g' ∧ g' 8 0 = I (hh 0) ∧ g' 8 1 = g 8 1 := by
    intro d
    induction d with
    | zero =>
      intro i n g1 hi hn hF h0 h1
      match n, hn with
      | n + 1, _ =>
        have e : i = 515 := by omega
        subst e
        have e9 : g1 6 515 = 9 := by
          rw [hF 6 (by decide), h6 515 (by omega)]; exact congrArg I sq_515
        rw [L_Mod_init_724, if_pos (show jin 0 2 by decide), show (0 : Int32).toNatClampNeg = 0 from rfl, h0, if_pos (show jin (I 515) 1019 by rw [I_jin (by omega)]; omega), I_cl (by omega), if_pos e9]
        exact ⟨g1, rfl, hF, h0, h1⟩
    | succ d ih =>
      intro i n g1 hi hn hF h0 h1
      match n, hn with
      | n + 1, hn =>
        have hl : 4 ^ i % 2039 < 2039 := Nat.mod_lt _ (by decide)
        rw [L_Mod_init_724, if_pos (show jin 0 2 by decide), show (0 : Int32).toNatClampNeg = 0 from rfl, h0, if_pos (show jin (I i) 1019 by rw [I_jin (by omega)]; omega), I_cl (by omega), hF 6 (by decide), h6 i (by omega), if_neg (show ¬ I (4 ^ i % 2039) = 9 by rw [I9, I_eq (by omega) (by omega)]; exact sq_ne i (by omega)), if_pos (show jin 0 2 by decide), if_pos (show jin 0 2 by decide)]
        simp only [jlet]
        refine ih (i + 1) n _ (by omega) (by omega) (hF.tr (FrM.up (l := [8]) (by simp)) (fun _ h => h) (fun _ h => h)) ?_ ?_
        · rw [vu_eq, upd_eq, I1, I_add]
        · rw [vu_eq, upd_ne (by decide)]; exact h1
  exact key 515 0 jF g (by omega) (by unfold jF; omega) FrM.rf h8 rfl
theorem in_h1 {g : jS} (h7 : ∀ e < 31, g 7 e = I (crv e)) (h8 : g 8 1 = I 0) : ∃ g', L_Mod_init_753 jF g = some g' ∧ FrM [8] g g' ∧ g' 8 1 = I (hh 1) ∧ g' 8 0 = g 8 0 := by
  have key : ∀ (d i n : Nat) (g1 : jS), i + d = 4 → d < n → FrM [8] g g1 → g1 8 1 = I i → g1 8 0 = g 8 0 → ∃ g', L_Mod_init_753 n g1 = some g' ∧ FrM [8] g g' ∧ g' 8 1 = I (hh 1) ∧ g' 8 0 = g 8 0 := by
    intro d
    induction d with
    | zero =>
      intro i n g1 hi hn hF h0 h1
      match n, hn with
      | n + 1, _ =>
        have e : i = 4 := by omega
        subst e
        have e9 : g1 7 4 = 1362 := by rw [hF 7 (by decide), h7 4 (by omega)]; rfl
        rw [L_Mod_init_753, if_pos (show jin 1 2 by decide), show (1 : Int32).toNatClampNeg = 1 from rfl, h0, if_pos (show jin (I 4) 31 by rw [I_jin (by omega)]; omega), I_cl (by omega), if_pos e9]
        exact ⟨g1, rfl, hF, h0, h1⟩
    | succ d ih =>
      intro i n g1 hi hn hF h0 h1
      match n, hn with
      | n + 1, hn =>
        have hl := crv_lt i (by omega)
        rw [L_Mod_init_753, if_pos (show jin 1 2 by decide), show (1 : Int32).toNatClampNeg = 1 from rfl, h0, if_pos (show jin (I i) 31 by rw [I_jin (by omega)]; omega), I_cl (by omega), hF 7 (by decide), h7 i (by omega), if_neg (show ¬ I (crv i) = 1362 by rw [show (1362 : Int32) = I 1362 from rfl, I_eq (by omega) (by omega)]; exact cv_ne i (by omega)), if_pos (show jin 1 2 by decide), if_pos (show jin 1 2 by decide)]
        simp only [jlet]
        refine ih (i + 1) n _ (by omega) (by omega) (hF.tr (FrM.up (l := [8]) (by simp)) (fun _ h => h) (fun _ h => h)) ?_ ?_
        · rw [vu_eq, upd_eq, I1, I_add]
        · rw [vu_eq, upd_ne (by decide)]; exact h1
  exact key 4 0 jF g (by omega) (by unfold jF; omega) FrM.rf h8 rfl
theorem sg0_k : ∀ j < 32, sg0 42 j = jTabK j ∧ sg0 43 j = jTabK (32 + j) := by decide +kernel
theorem sg0_s : ∀ j < 8, sg0 45 j = jTabS j := by decide +kernel
theorem sg0_0 {K : Nat} (h1 : K ≠ 42) (h2 : K ≠ 43) (h3 : K ≠ 45) : sg0 K = fun _ => 0 := by
  unfold sg0; rw [if_neg h1, if_neg h2, if_neg h3]
theorem init_rel : ∃ r, f_Mod_init sg0 = some r ∧ Rel u0 r := by
  obtain ⟨y, g1, e1, f1, v1⟩ := in_sq sg0
  have F1 : FrM [6, 7, 8] sg0 (va_up (va_up g1 7 (upd (g1 7) 0 4000)) 7 (upd (upd (g1 7) 0 4000) 1 140)) := ((f1.tr (FrM.rf (l := [])) (by decide) (by decide) (l := [6, 7, 8])).tr (FrM.up (l := [7]) (by simp)) (fun _ h => h) (by decide)).tr (FrM.up (l := [7]) (by simp)) (fun _ h => h) (by decide)
  obtain ⟨g2, e2, f2, v2⟩ := in_cv (g := va_up (va_up g1 7 (upd (g1 7) 0 4000)) 7 (upd (upd (g1 7) 0 4000) 1 140)) (by rw [vu_eq, upd_ne (by decide), upd_eq]; rfl) (by rw [vu_eq, upd_eq]; rfl)
  have F2 : FrM [6, 7, 8] sg0 g2 := F1.tr f2 (fun _ h => h) (by decide)
  have z8 : g2 8 = fun _ => 0 := by
    rw [f2 8 (by decide), vu_ne (by decide), vu_ne (by decide), f1 8 (by decide), sg0_0 (by decide) (by decide) (by decide)]
  have s6 : ∀ e < 1019, g2 6 e = I (4 ^ e % 2039) := fun e he => by
    rw [f2 6 (by decide), vu_ne (by decide), vu_ne (by decide)]; exact v1 e he
  obtain ⟨g3, e3, f3, v3, w3⟩ := in_h0 s6 (by rw [z8]; rfl)
  obtain ⟨g4, e4, f4, v4, w4⟩ := in_h1 (g := g3) (fun e he => by rw [f3 7 (by decide)]; exact v2 e he) (by rw [w3, z8]; rfl)
  have F4 : FrM [6, 7, 8] sg0 g4 := (F2.tr f3 (fun _ h => h) (by decide)).tr f4 (fun _ h => h) (by decide)
  have z : ∀ K, K ≠ 42 → K ≠ 43 → K ≠ 45 → K ≠ 6 → K ≠ 7 → K ≠ 8 → ∀ j, g4 K j = I 0 := fun K a b c d e f j => by
    rw [F4 K (by simp; omega), sg0_0 a b c]; rfl
  refine ⟨g4, ?_, ⟨0, 0, by omega, by omega, rfl, z 1 (by decide) (by decide) (by decide) (by decide) (by decide) (by decide) 0, rfl, z 2 (by decide) (by decide) (by decide) (by decide) (by decide) (by decide) 0, fun j hj => by omega, fun i j _ hj => by omega⟩, ⟨?_, ?_, ?_, ?_, ?_⟩, Or.inl ⟨rfl, rfl, rfl, z 15 (by decide) (by decide) (by decide) (by decide) (by decide) (by decide) 0, z 16 (by decide) (by decide) (by decide) (by decide) (by decide) (by decide) 0, z 17 (by decide) (by decide) (by decide) (by decide) (by decide) (by decide) 0, z 18 (by decide) (by decide) (by decide) (by decide) (by decide) (by decide) 0, ⟨rfl, z 40 (by decide) (by decide) (by decide) (by decide) (by decide) (by decide) 0, by omega, fun j hj => by omega⟩⟩⟩
  · unfold f_Mod_init
    rw [e1, Option.bind_some]
    simp only [jlet]
    rw [if_pos (show jin 0 31 by decide), if_pos (show jin 1 31 by decide), show (0 : Int32).toNatClampNeg = 0 from rfl, show (1 : Int32).toNatClampNeg = 1 from rfl, vu_eq, show L_Mod_init_695 jF 2 _ = _ from e2, Option.bind_some]
    simp only
    rw [e3, Option.bind_some, e4]; rfl
  · intro e he
    rw [f4 6 (by decide), f3 6 (by decide)]; exact s6 e he
  · intro e he
    rw [f4 7 (by decide), f3 7 (by decide)]; exact v2 e he
  · intro γ hγ
    match γ, hγ with
    | 0, _ => rw [w4]; exact v3
    | 1, _ => exact v4
  · intro j hj
    rw [F4 42 (by decide), F4 43 (by decide)]; exact sg0_k j hj
  · intro j hj
    rw [F4 45 (by decide)]; exact sg0_s j hj

