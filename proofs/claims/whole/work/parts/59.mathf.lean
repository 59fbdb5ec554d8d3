/-! ===== recover, refresh, handOn ===== -/
theorem mask_split (x M : Int32) : (x &&& M) ^^^ (x &&& (M ^^^ (-1))) = x := by
  apply Int32.toBitVec_inj.1
  have e : (-1 : Int32).toBitVec = BitVec.allOnes 32 := rfl
  rw [Int32.toBitVec_xor, Int32.toBitVec_and, Int32.toBitVec_and, Int32.toBitVec_xor, e]
  ext i hi
  simp only [BitVec.getElem_xor, BitVec.getElem_and, BitVec.getElem_allOnes]
  cases x.toBitVec[i] <;> cases M.toBitVec[i] <;> rfl
theorem I_and (a b : Nat) : I a &&& I b = I (a &&& b) := by
  apply Int32.toBitVec_inj.mp
  show (Int32.ofNat a).toBitVec &&& (Int32.ofNat b).toBitVec = (Int32.ofNat (a &&& b)).toBitVec
  exact (BitVec.ofNat_and).symm
theorem enough_or {s : jU} {g : jS} {n t : Nat} (h20 : s 20 0 0 = I n) (h11 : g 11 0 = I n) (h21 : s 21 0 0 = I t) (h12 : g 12 0 = I t) (hn : n ≤ 7) (ht : t ≤ 7) (x : Int32) : (∃ m, x = I m ∧ m < 2 ^ n ∧ m < 128 ∧ f_SR_needEnough x s = some (.inr ()) ∧ f_Mod_enough x g = some (I 1)) ∨ (f_SR_needEnough x s = some (.inl xA) ∧ f_Mod_enough x g = some (I 0)) := by
  have hp : 2 ^ n ≤ 128 := Nat.pow_le_pow_right (n := 2) (j := 7) (by decide) hn
  have hp0 : 0 < 2 ^ n := Nat.two_pow_pos n
  have key : ∀ y : Int32, (y &&& (I (2 ^ n - 1) ^^^ (-1)) = 0) → ∃ m, y = I m ∧ m < 2 ^ n := fun y h => by
    have e := mask_split y (I (2 ^ n - 1))
    rw [h, Int32.xor_zero] at e
    have e2 : y = I (y.toUInt32.toNat) := by
      apply Int32.toBitVec_inj.mp
      show y.toBitVec = BitVec.ofNat 32 y.toBitVec.toNat
      simp
    rw [e2, I_and, Nat.and_two_pow_sub_one_eq_mod] at e
    refine ⟨y.toUInt32.toNat % 2 ^ n, ?_, Nat.mod_lt _ hp0⟩
    rw [e]; exact e2
  unfold f_SR_needEnough f_Room_isEnough f_Mod_enough
  rw [mask_c h20 hn, mask_m h11 hn, Option.bind_some, Option.bind_some, h21, h12]
  by_cases hb : x &&& (I (2 ^ n - 1) ^^^ (-1)) = 0
  · obtain ⟨m, rfl, hm⟩ := key x hb
    rw [if_neg (fun e => e hb), B_pop m (by omega), Option.bind_some, B_bits m (by omega), Option.bind_some, if_neg (show ¬ I m < 0 by rw [I0, I_lt (by omega) (by omega)]; omega), if_neg (show ¬ I (2 ^ n - 1) < I m by rw [I_lt (by omega) (by omega)]; omega)]
    have hpl := popc_lt m (by omega)
    by_cases hc : popc m < t
    · right
      have hcI : I (popc m) < I t := by rw [I_lt (by omega) (by omega)]; exact hc
      rw [if_pos hcI]; exact ⟨rfl, rfl⟩
    · left
      have hcI : ¬ I (popc m) < I t := by rw [I_lt (by omega) (by omega)]; exact hc
      rw [if_neg hcI]
      exact ⟨m, rfl, hm, by omega, rfl, rfl⟩
  · right
    rw [if_pos hb]
    refine ⟨rfl, ?_⟩
    rcases I_cases x with hx | ⟨a, rfl, ha⟩
    · rw [if_pos hx]; rfl
    · rw [if_neg (show ¬ I a < 0 by rw [I0, I_lt (by omega) (by omega)]; omega), if_pos (show I (2 ^ n - 1) < I a by
        rw [I_lt (by omega) (by omega)]
        false_or_by_contra
        apply hb
        have hl : a < 2 ^ n := by omega
        have e := mask_split (I a) (I (2 ^ n - 1))
        rw [I_and, Nat.and_two_pow_sub_one_eq_mod, Nat.mod_eq_of_lt hl] at e
        have e2 := congrArg (fun z => I a ^^^ z) e
        simp only [← Int32.xor_assoc, Int32.xor_self, Int32.zero_xor] at e2
        exact e2)]
      rfl

theorem done_or {s : jU} {g : jS} (h : Rel s g) : (∃ γ n t n0 t0 dm em b, RelR s g 2 7 γ n t n0 t0 dm em b ∧ f_SR_needDone s = some (.inr ())) ∨ (f_SR_needDone s = some (.inl xS) ∧ ∀ A : Option Int32, (if g 15 0 = 0 then some 1 else if ¬ g 16 0 = 0 then A else some 1) = some 1) := by
  unfold f_SR_needDone f_Room_stage
  rcases h.2.2 with hR | ⟨st, r, γ, n, t, n0, t0, dm, em, b, hS⟩
  · right
    rw [hR.1, hR.2.2.2.1]
    exact ⟨rfl, fun A => rfl⟩
  · obtain ⟨h22, h15, h16, h17, hst1, hst3⟩ := hS.1.1
    by_cases hs2 : st = 2
    · subst hs2
      left
      have hr := hS.2.2.2.2.2.2.2.2.2.2.2.2.1 rfl
      subst hr
      exact ⟨γ, n, t, n0, t0, dm, em, b, hS, by rw [h22]; rfl⟩
    · right
      rw [h22, h15, h16, Option.bind_some, if_neg (show ¬ I st = 2 by rw [I2, I_eq (by omega) (by omega)]; exact hs2)]
      refine ⟨rfl, fun A => ?_⟩
      rw [if_neg (show ¬ I 1 = 0 by decide), if_neg hs2]; rfl
theorem done_t {g : jS} {st r γ n t n0 t0 dm em b : Nat} {s : jU} (hS : RelR s g 2 7 γ n t n0 t0 dm em b) (A : Option Int32) : (if g 15 0 = 0 then some 1 else if ¬ g 16 0 = 0 then A else some 1) = A := by
  obtain ⟨h22, h15, h16, -⟩ := hS.1.1
  rw [h15, h16]; rfl
theorem mod2 : ∀ m < 128, ∀ j < 8, (1 ≤ j → (bt m j = true → m % 2 ^ j = (m % 2 ^ (j - 1)) ||| 2 ^ (j - 1)) ∧ (¬ bt m j = true → m % 2 ^ j = m % 2 ^ (j - 1))) := by decide +kernel
theorem upd_self {f : Nat → Int32} {k : Nat} {v : Int32} (h : f k = v) : upd f k v = f := by
  funext j; unfold upd; by_cases e : j = k
  · rw [if_pos e, e, h]
  · rw [if_neg e]
theorem vu_self {g : jS} {K : Nat} : va_up g K (g K) = g := by
  funext j; unfold va_up; by_cases e : j = K
  · rw [if_pos e, e]
  · rw [if_neg e]
theorem pbit {x : Int32} {m j : Nat} (hx : x = I m) (hm : m < 128) (hj : 1 ≤ j ∧ j ≤ 7) {α : Type} (A B : Option α) : (Option.bind (f_SR_bit (I j)) fun z => if (x &&& z) = 0 then A else B) = if bt m j = true then B else A := by
  unfold f_SR_bit
  rw [B_bit hj.1 (by omega), Option.bind_some, hx]
  have e := B_tst m hm (j - 1) (by omega)
  by_cases hb : bt m j = true
  · have hn : ¬ m.testBit (j - 1) = false := by unfold bt at hb; rw [hb]; decide
    rw [if_neg (fun he => hn (e.mp he)), if_pos hb]
  · have hn : m.testBit (j - 1) = false := by unfold bt at hb; simpa using hb
    rw [if_pos (e.mpr hn), if_neg hb]
/-- the shares of those in m, as points -/
theorem csh {s : jU} {g : jS} {γ n m : Nat} (hγ : γ < 2) (h53 : s 53 0 0 = I (1 + γ)) (h20 : s 20 0 0 = I n) (hn : n ≤ 7) (hm : m < 2 ^ n) (hm7 : m < 128) (hsh : ∀ j < n, g 38 j = s 9 j 0 ∧ OK (qg γ) (s 9 j 0)) : ∃ s', f_Room_collectShares (I m) s = some s' ∧ FrC [34, 35, 37, 52] s s' ∧ Ptm s' g γ m := by
  have hF0 : FrC [34, 35, 37, 52] s (ups (ups s 52 0 (fun _ => Int32.ofNat (1 + γ))) 37 0 (fun _ => 0)) := (FrC.up (l := [34, 35, 37, 52]) (by simp)).tr (FrC.up (l := [34, 35, 37, 52]) (by simp)) (fun _ h => h) (fun _ h => h)
  obtain ⟨s', e1, -, c1, c2⟩ := loopU (L_Room_collectShares_13 (I m)) (n + 1) (fun j s1 => 1 ≤ j ∧ FrC [34, 35, 37, 52] s s1 ∧ Ptm s1 g γ (m % 2 ^ (j - 1)))
    (fun k j s1 hj hP => by
      obtain ⟨d0, d1, d2⟩ := hP
      obtain ⟨p1, p2⟩ := mod2 m hm7 j (by omega) d0
      have hml : m % 2 ^ (j - 1) < 2 ^ (j - 1) := Nat.mod_lt _ (Nat.two_pow_pos _)
      have k20 : s1 20 0 0 = I n := by rw [d1 20 (by decide)]; exact h20
      have eq : L_Room_collectShares_13 (I m) (k + 1) (I j) s1 = Option.bind (if bt m j = true then Option.bind (f_Points_add 1 (I j) (s 9 (j - 1) 0) s1) fun s22 => some s22 else some s1) fun s23 => L_Room_collectShares_13 (I m) k (I (j + 1)) s23 := by
        rw [L_Room_collectShares_13, k20, if_neg (show ¬ I n < I j by rw [I_lt (by omega) (by omega)]; omega), show I j + 1 = I (j + 1) from I_add j 1, jidx_P ⟨d0, by omega⟩, Option.bind_some, if_pos (show jin 0 2 by decide), show (0 : Int32).toNatClampNeg = 0 from rfl, d1 9 (by decide)]
        simp only [jlet]
        rw [← Option.bind_assoc, pbit rfl hm7 ⟨d0, by omega⟩]
      by_cases hb : bt m j = true
      · obtain ⟨q1, q2⟩ := hsh (j - 1) (by omega)
        obtain ⟨s2, r1, r2, r3⟩ := padd_spec (j := j) (v := s 9 (j - 1) 0) ⟨d0, by omega⟩ d2 hml q2
        rw [upd_self q1, vu_self] at r3
        refine ⟨s2, ⟨by omega, d1.tr r2 (fun _ h => h) (by decide), ?_⟩, ?_⟩
        · rw [show j + 1 - 1 = j from by omega, p1 hb]; exact r3
        · rw [eq, if_pos hb, r1]; rfl
      · refine ⟨s1, ⟨by omega, d1, ?_⟩, ?_⟩
        · rw [show j + 1 - 1 = j from by omega, p2 hb]; exact d2
        · rw [eq, if_neg hb]; rfl)
    (fun k s1 hP => by
      rw [L_Room_collectShares_13, hP.2.1 20 (by decide), h20, if_pos (show I n < I (n + 1) by rw [I_lt (by omega) (by omega)]; omega)]) n 1 jF (ups (ups s 52 0 (fun _ => Int32.ofNat (1 + γ))) 37 0 (fun _ => 0)) (by omega) (by unfold jF; omega) ⟨by omega, hF0, by
        rw [show (1 : Nat) - 1 = 0 from rfl, Nat.pow_zero, Nat.mod_one]
        exact ⟨by omega, rfl, rfl, fun j _ _ h => (bt0f h).elim⟩⟩
  rw [show n + 1 - 1 = n from by omega, Nat.mod_eq_of_lt hm] at c2
  refine ⟨s', ?_, c1, c2⟩
  unfold f_Room_collectShares f_Points_clear
  rw [h53, fnum_q hγ]
  simp only [jlet, Option.bind_some]
  show Option.bind (L_Room_collectShares_13 (I m) jF 1 (ups (ups s 52 0 (fun _ => Int32.ofNat (1 + γ))) 37 0 (fun _ => 0))) _ = _
  rw [show L_Room_collectShares_13 (I m) jF 1 _ = _ from e1]; rfl
theorem mcopy (g : jS) : ∃ g', L_Mod_recover_46 jF 0 g = some (I 7, g') ∧ FrM [38] g g' ∧ ∀ j < 7, g' 38 j = g 36 j := by
  obtain ⟨g', e, c1, c2⟩ := loopU L_Mod_recover_46 7 (fun i g1 => FrM [38] g g1 ∧ ∀ j < i, g1 38 j = g 36 j)
    (fun n i g1 hi hP => by
      obtain ⟨d1, d2⟩ := hP
      have h7 : jin (I i) 7 := by rw [I_jin (by omega)]; omega
      refine ⟨va_up g1 38 (upd (g1 38) i (g 36 i)), ⟨d1.tr (FrM.up (l := [38]) (by simp)) (fun _ h => h) (fun _ h => h), fun j hj => ?_⟩, ?_⟩
      · rw [vu_eq]
        by_cases e : j = i
        · subst e; rw [upd_eq]
        · rw [upd_ne e]; exact d2 j (by omega)
      · rw [L_Mod_recover_46, if_neg (show ¬ 7 ≤ I i by rw [I7, I_le (by omega) (by omega)]; omega), if_pos h7, if_pos h7, I_cl (by omega), d1 36 (by decide)]
        simp only [jlet]
        rw [I1, I_add])
    (fun n g1 hP => by rw [L_Mod_recover_46, if_pos (by decide)]) 7 0 jF g (by omega) (by unfold jF; omega) ⟨FrM.rf, fun j hj => by omega⟩
  exact ⟨g', e, c1, c2⟩
theorem Rel_fr2 {s s' : jU} {g g' : jS} (h : Rel s g) (a : FrC [34, 35, 37, 52] s s') (b : FrM [0, 38] g g') : Rel s' g' := by
  have a' : ∀ K, K ≠ 34 → K ≠ 35 → K ≠ 37 → K ≠ 52 → s' K = s K := fun K h1 h2 h3 h4 => a K (by simp; omega)
  have b' : ∀ K, K ≠ 0 → K ≠ 38 → g' K = g K := fun K h1 h2 => b K (by simp; omega)
  unfold Rel RelP RelT Rel0 RelR rSc rCz rCo rFa rCr rEl rNu rCm rSh rMa rKe rBo rRo ctot at *
  simp (disch := decide) only [a', b']
  exact h
theorem fa_recover {s : jU} {g : jS} (h : Rel s g) (x : Int32) : FaI Rel [(xS, 1), (xA, 2)] s (f_SR_recover x s) (f_Mod_recover x g) := by
  unfold FaI f_SR_recover f_Mod_recover
  rcases done_or h with ⟨γ, n, t, n0, t0, dm, em, b, hS, hd⟩ | ⟨hd, hm⟩
  · rw [hd, done_t (st := 0) (r := 0) hS]
    obtain ⟨-, -, ⟨h50, h53, h9, h10, hγ⟩, ⟨h20, h11, h21, h12, ht1, htn, hn7⟩, -⟩ := hS.1
    have hSh := hS.2.2.2.2.2.2.2.1
    rcases enough_or h20 h11 h21 h12 hn7 (by omega) x with ⟨m, rfl, hm, hm7, e1, e2⟩ | ⟨e1, e2⟩
    · left
      rw [e1, e2]
      obtain ⟨g1, r1, r2, r3⟩ := mcopy (va_up g 0 (fun _ => 0))
      obtain ⟨s1, c1, c2, c3⟩ := csh (g := g1) hγ h53 h20 hn7 hm hm7 (fun j hj => by
        obtain ⟨⟨u1, u2⟩, -⟩ := (hSh j hj).1 (by omega)
        exact ⟨by rw [r3 j (by omega)]; exact u1, u2⟩)
      obtain ⟨V, z1, z2⟩ : ∃ V, f_Mod_atZero (I m) g1 = some (I V) ∧ f_Points_valueAt 1 (I 0) s1 = some (I V) := ⟨_, mz_spec hγ c3 (by rw [r2 10 (by decide)]; exact h10)⟩
      refine ⟨I V, s1, g1, ?_, ?_, ?_, Rel_fr2 h c2 ((FrM.up (l := [0, 38]) (K := 0) (by simp)).tr r2 (fun _ h => h) (by simp))⟩
      · simp only [jtry]
        unfold f_Room_secretOf
        rw [c1, Option.bind_some, show f_Points_valueAt 1 0 s1 = _ from z2]; rfl
      · simp only [Option.bind_some, jlet, if_pos (show ¬ I 1 = 0 by decide)]
        rw [if_pos (show va_up g 0 (fun _ => (0 : Int32)) 0 0 ≤ 0 from le00), show L_Mod_recover_46 jF 0 (va_up g 0 (fun _ => 0)) = _ from r1, Option.bind_some]
        simp only
        rw [z1]; rfl
      · show some (g1 0 0) = _
        rw [r2 0 (by decide)]; rfl
    · right
      rw [e1, e2]
      exact ⟨xA, 2, 0, va_up g 0 (fun _ => 2), by simp, rfl, rfl, rfl, Rel_0 _ h⟩
  · right
    rw [hd, hm]
    exact ⟨xS, 1, 0, va_up g 0 (fun _ => 1), by simp, rfl, rfl, rfl, Rel_0 _ h⟩

/-! shares made anew -/
theorem pforget_spec (k : Nat) (s : jU) : ∃ s', f_Party_forget k s = some s' ∧ ((∀ j < 7, s' 0 k j = I 0 ∧ s' 1 k j = I 0 ∧ s' 2 k j = I 0) ∧ s' 10 k 0 = I 8) ∧ (∀ K j, j ≠ k → s' K j = s K j) ∧ FrC [0, 1, 2, 10] s s' := by
  refine ⟨_, rfl, ⟨?_, ?_⟩, ?_, ?_⟩
  · intro j hj
    simp +decide [ups, va_up, afl, hj]
  · simp +decide [ups, va_up]
  · intro K j hj
    simp only [ups_ni hj]
  · exact (((FrC.up (l := [0, 1, 2, 10]) (by simp)).tr (FrC.up (l := [0, 1, 2, 10]) (by simp)) (fun _ h => h) (fun _ h => h)).tr (FrC.up (l := [0, 1, 2, 10]) (by simp)) (fun _ h => h) (fun _ h => h)).tr (FrC.up (l := [0, 1, 2, 10]) (by simp)) (fun _ h => h) (fun _ h => h)
def nw (s s0 : jU) (k : Nat) : Prop := (∀ j < 7, s 0 k j = I 0 ∧ s 1 k j = I 0 ∧ s 2 k j = I 0) ∧ s 10 k 0 = I 8 ∧ s 9 k 0 = s0 28 0 (k + 1) ∧ s 9 k 1 = I 0
theorem take_spec (s : jU) : ∃ s', f_Room_takeNewShares s = some s' ∧ FrC [0, 1, 2, 9, 10] s s' ∧ ∀ k < 7, nw s' s k := by
  obtain ⟨s', e, -, c1, c2⟩ := loopU L_Room_takeNewShares_2 8 (fun i s1 => 1 ≤ i ∧ FrC [0, 1, 2, 9, 10] s s1 ∧ ∀ k < i - 1, nw s1 s k)
    (fun n i s1 hi hP => by
      obtain ⟨d0, d1, d2⟩ := hP
      obtain ⟨s2, e2, ⟨ha1, ha2⟩, hb, hc⟩ := pforget_spec (i - 1) s1
      have h8 : jin (I i) 8 := by rw [I_jin (by omega)]; omega
      have F2 : FrC [0, 1, 2, 9, 10] s s2 := d1.tr hc (fun _ h => h) (by decide)
      refine ⟨ups (ups s2 9 (i - 1) (upd (s2 9 (i - 1)) 0 (s 28 0 i))) 9 (i - 1) (upd (upd (s2 9 (i - 1)) 0 (s 28 0 i)) 1 0), ⟨by omega, (F2.tr (FrC.up (l := [9]) (by simp)) (fun _ h => h) (by decide)).tr (FrC.up (l := [9]) (by simp)) (fun _ h => h) (by decide), ?_⟩, ?_⟩
      · intro k hk
        by_cases ek : k = i - 1
        · subst ek
          refine ⟨fun j hj => ?_, ?_, ?_, ?_⟩
          · rw [ups_nK (by decide), ups_nK (by decide), ups_nK (by decide), ups_nK (by decide), ups_nK (by decide), ups_nK (by decide)]
            exact ha1 j hj
          · rw [ups_nK (by decide), ups_nK (by decide)]; exact ha2
          · rw [ups_eq, upd_ne (by decide), upd_eq, show i - 1 + 1 = i from by omega]
          · rw [ups_eq, upd_eq]; rfl
        · have := d2 k (by omega)
          unfold nw at *
          simp only [ups_ni ek, hb _ k ek]; exact this
      · rw [L_Room_takeNewShares_2, if_neg (show ¬ 7 < I i by rw [I7, I_lt (by omega) (by omega)]; omega), jidx_P (by omega), Option.bind_some, e2, Option.bind_some, Option.bind_some, if_pos h8, if_pos (show jin 0 2 by decide), I_cl (by omega), F2 28 (by decide)]
        simp only [jlet, Option.bind_some]
        rw [if_pos (show jin 1 2 by decide), I1, I_add, ups_eq]
        rfl)
    (fun n s1 hP => by rw [L_Room_takeNewShares_2, if_pos (by decide)]) 7 1 jF s (by omega) (by unfold jF; omega) ⟨by omega, FrC.rf, fun k hk => by omega⟩
  refine ⟨s', ?_, c1, fun k hk => c2 k (by omega)⟩
  unfold f_Room_takeNewShares
  rw [show L_Room_takeNewShares_2 jF 1 s = _ from e]; rfl
theorem fresh_rel {s s' : jU} {g g' : jS} {γ n t n0 t0 dm em b n' t' : Nat} (hP : RelP s g) (hT : RelT g) (h : RelR s g 2 7 γ n t n0 t0 dm em b) (a : FrC [0, 1, 2, 9, 10, 20, 21, 28, 34, 35, 37, 52] s s') (c : FrM [0, 11, 12, 19, 20, 21, 22, 36, 37, 38] g g') (h20 : s' 20 0 0 = I n') (h11 : g' 11 0 = I n') (h21 : s' 21 0 0 = I t') (h12 : g' 12 0 = I t') (ht : 1 ≤ t' ∧ t' ≤ n' ∧ n' ≤ 7) (hz : ∀ k < 7, (∀ j < 7, s' 0 k j = I 0 ∧ s' 1 k j = I 0 ∧ s' 2 k j = I 0) ∧ s' 10 k 0 = I 8) (hg : (∀ j < 49, g' 19 j = I 0 ∧ g' 20 j = I 0 ∧ g' 21 j = I 0) ∧ ∀ j < 7, g' 22 j = I 8) (hsh : ∀ i < n', (g' 36 i = s' 9 i 0 ∧ OK (qg γ) (s' 9 i 0)) ∧ (g' 37 i = s' 9 i 1 ∧ OK (qg γ) (s' 9 i 1))) : Rel s' g' := by
  obtain ⟨hS, hCo, hFa, hCr, hDe, hEx, hCm, hSh, hMa, hKe, hBo, hRo⟩ := h
  obtain ⟨⟨a1, a2, a3, a4, a5, a6⟩, ⟨b1, b2, b3⟩, ⟨d1, d2, d3, d4, d5⟩, -, ⟨e1, e2, e3, e4, -⟩⟩ := hS
  have hq := qg_b γ
  refine ⟨RelP_fr hP a c (by decide) (by decide), RelT_fr hT c (by decide), Or.inr ⟨2, 7, γ, n', t', n0, t0, dm, em, b, ⟨⟨?_, ?_, ?_, ?_, by omega, by omega⟩, ⟨?_, ?_, by omega⟩, ⟨?_, ?_, ?_, ?_, d5⟩, ⟨h20, h11, h21, h12, ht.1, ht.2.1, ht.2.2⟩, ⟨?_, ?_, e3, e4, fun i hi k _ hk => ((hz i hi).1 k hk).1⟩⟩, ?_, ?_, ?_, ?_, ?_, rCm_fr hCm a c (by decide) (by decide), ?_, rMa_fr hMa a c (by decide) (by decide), rKe_fr hKe a c (by decide) (by decide), rBo_fr hBo a c (by decide) (by decide), ?_⟩⟩
  · rw [a 22 (by decide)]; exact a1
  · rw [c 15 (by decide)]; exact a2
  · rw [c 16 (by decide)]; exact a3
  · rw [c 17 (by decide)]; exact a4
  · rw [a 23 (by decide)]; exact b1
  · rw [c 18 (by decide)]; exact b2
  · rw [a 50 (by decide)]; exact d1
  · rw [a 53 (by decide)]; exact d2
  · rw [c 9 (by decide)]; exact d3
  · rw [c 10 (by decide)]; exact d4
  · rw [c 13 (by decide)]; exact e1
  · rw [c 14 (by decide)]; exact e2
  · intro i hi k hk
    obtain ⟨u1, u2, -⟩ := (hz i hi).1 k hk
    obtain ⟨v1, v2, -⟩ := hg.1 (7 * i + k) (by omega)
    rw [u1, u2, v1, v2]
    exact ⟨⟨rfl, OK0 (by omega) (by omega)⟩, rfl, OK0 (by omega) (by omega)⟩
  · intro i hi k hk
    obtain ⟨-, -, u3⟩ := (hz i hi).1 k hk
    obtain ⟨-, -, v3⟩ := hg.1 (7 * k + i) (by omega)
    rw [u3, v3]
    exact ⟨OK0 (by omega) (by omega), fun _ => ⟨rfl, by rw [Ne, I_eq (by omega) (by omega)]; omega⟩, fun _ => rfl⟩
  · intro i hi
    rw [(hz i hi).2, hg.2 i hi]
    exact ⟨rfl, OK_I (by omega) (by omega)⟩
  · unfold rEl rNu at *
    rw [a 3 (by decide), a 5 (by decide), a 6 (by decide), a 12 (by decide), c 23 (by decide), c 30 (by decide), c 31 (by decide), c 34 (by decide)]; exact hDe
  · unfold rEl at *
    rw [a 4 (by decide), a 13 (by decide), c 24 (by decide), c 35 (by decide)]; exact hEx
  · intro i hi
    exact ⟨fun _ => hsh i hi, fun e => absurd ⟨by omega, by omega⟩ e⟩
  · exact ⟨fun e => by omega, fun _ => rfl, fun e => by omega, fun e => by omega⟩
/-! refresh -/
def dz (s : jU) (γ t i j : Nat) : Nat := j * hs (fun k => U (s 0 i (k + 1))) j (t - 1) % qg γ
def rac (s : jU) (γ t j sh : Nat) : Nat → Nat
  | 0 => sh
  | i + 1 => if U (s 10 i 0) = 8 then (rac s γ t j sh i + dz s γ t i j) % qg γ else rac s γ t j sh i
theorem rac_lt {s : jU} {γ t j sh : Nat} (h : sh < qg γ) : ∀ i, rac s γ t j sh i < qg γ
  | 0 => h
  | i + 1 => by
    unfold rac
    split
    · exact Nat.mod_lt _ (by have := qg_b γ; omega)
    · exact rac_lt h i
theorem dfrom_spec {s : jU} {γ p t j sh : Nat} (hγ : γ < 2) (h53 : s 53 0 0 = I (1 + γ)) (hp : 1 ≤ p ∧ p ≤ 7) (ht : 1 ≤ t ∧ t ≤ 7) (hj : j ≤ 7) (hsh : sh < qg γ) (hc : ∀ k < 7, OK (qg γ) (s 0 (p - 1) k)) : f_Room_dealtFrom (I sh) (I p) (I t) (I j) s = some (I ((sh + j * hs (fun k => U (s 0 (p - 1) (k + 1))) j (t - 1)) % qg γ)) := by
  unfold f_Room_dealtFrom
  rw [jidx_P hp, Option.bind_some, h53, fnum_q hγ]
  match t, ht with
  | t + 1, ht =>
    rw [F_pat (c := fun k => U (s 0 (p - 1) (k + 1))) hγ (by omega) (by omega) (by omega) hsh (fun k hk => ⟨(hc (k + 1) (by omega)).1, (hc (k + 1) (by omega)).2⟩)]
    rfl
theorem rs_c {s : jU} {g : jS} {γ n t j sh : Nat} (hC : Cx s g γ n t) (hj : 1 ≤ j ∧ j ≤ 7) (hsh : sh < qg γ) : L_Room_renewShares_23 (I j) s jF (I sh) 1 = some (I (rac s γ t j sh n), I (n + 1)) := by
  obtain ⟨⟨h50, h53, h9, h10, hγ⟩, ⟨h20, h11, h21, h12, ht1, htn, hn7⟩, hT, hCo, hFa, hCr⟩ := id hC
  have hq := qg_b γ
  have key : ∀ (d i k : Nat), i + d = n → d < k → L_Room_renewShares_23 (I j) s k (I (rac s γ t j sh i)) (I (i + 1)) = some (I (rac s γ t j sh n), I (n + 1)) := by
    intro d
    induction d with
    | zero =>
      intro i k hi hk
      match k, hk with
      | k + 1, _ =>
        have e : i = n := by omega
        subst e
        rw [L_Room_renewShares_23, h20, if_pos (show I i < I (i + 1) by rw [I_lt (by omega) (by omega)]; omega)]
    | succ d ih =>
      intro i k hi hk
      match k, hk with
      | k + 1, hk =>
        obtain ⟨-, c2⟩ := hCr i (by omega)
        have hl := rac_lt (s := s) (t := t) (j := j) hsh i
        rw [L_Room_renewShares_23, h20, if_neg (show ¬ I n < I (i + 1) by rw [I_lt (by omega) (by omega)]; omega), jidx_P ⟨by omega, by omega⟩, Option.bind_some, show i + 1 - 1 = i from by omega, cnever_spec c2.1 c2.2, Option.bind_some, show I (i + 1) + 1 = I (i + 1 + 1) from I_add (i + 1) 1]
        have ihi := ih (i + 1) k (by omega) (by omega)
        rw [rac] at ihi
        by_cases hw : U (s 10 i 0) = 8
        · have hd := dfrom_spec (s := s) (p := i + 1) (t := t) (j := j) (sh := 0) hγ h53 ⟨by omega, by omega⟩ ⟨ht1, by omega⟩ hj.2 (by omega) (fun k hk => by
            rw [show i + 1 - 1 = i from by omega]; exact (hCo i (by omega) k hk).1.2)
          rw [show i + 1 - 1 = i from by omega, Nat.zero_add] at hd
          have hdl : dz s γ t i j < qg γ := Nat.mod_lt _ (by omega)
          rw [if_pos hw] at ihi ⊢
          rw [if_neg (show ¬ I 1 = 0 by decide), h21, show f_Room_dealtFrom 0 (I (i + 1)) (I t) (I j) s = _ from hd, Option.bind_some, h53, fnum_q hγ]
          rw [show I (j * hs (fun k => U (s 0 i (k + 1))) j (t - 1) % qg γ) = I (dz s γ t i j) from rfl, F_pl hγ (by omega) (by omega), Option.bind_some, Option.bind_some]
          simp only [jlet]
          exact ihi
        · rw [if_neg hw] at ihi ⊢
          rw [if_pos (show I 0 = 0 from rfl), Option.bind_some]
          simp only [jlet]
          exact ihi
  exact key n 0 jF (by omega) (by unfold jF; omega)
theorem rs_m {s : jU} {g : jS} {γ n t j sh : Nat} (hC : Cx s g γ n t) (hj : 1 ≤ j ∧ j ≤ 7) (hsh : sh < qg γ) (h36 : g 36 (j - 1) = I sh) : ∃ g', L_Mod_refresh_43 (I j) jF 1 g = some (I (n + 1), g') ∧ FrM [36] g g' ∧ g' 36 = upd (g 36) (j - 1) (I (rac s γ t j sh n)) := by
  obtain ⟨⟨h50, h53, h9, h10, hγ⟩, ⟨h20, h11, h21, h12, ht1, htn, hn7⟩, hT, hCo, hFa, hCr⟩ := id hC
  have hq := qg_b γ
  have hqn : ¬ I (qg γ) = 0 := by rw [I0, I_eq (by omega) (by omega)]; omega
  obtain ⟨g', e, -, c1, c2⟩ := loopU (L_Mod_refresh_43 (I j)) (n + 1) (fun i g1 => 1 ≤ i ∧ FrM [36] g g1 ∧ g1 36 = upd (g 36) (j - 1) (I (rac s γ t j sh (i - 1))))
    (fun k i g1 hi hP => by
      obtain ⟨d0, d1, d2⟩ := hP
      have hC1 : Cx s g1 γ n t := hC.fr (FrC.rf (l := [])) d1 (by decide) (by decide)
      obtain ⟨⟨k50, k53, k9, k10, -⟩, ⟨k20, k11, k21, k12, -⟩, kT, kCo, kFa, kCr⟩ := id hC1
      obtain ⟨w1, w2⟩ := kCr (i - 1) (by omega)
      have hw := mworks_spec (r := 8) d0 (show i ≤ 7 by omega) (w1.trans w2.1) w2.2 (by omega)
      have hl := rac_lt (s := s) (t := t) (j := j) hsh (i - 1)
      have hrac : rac s γ t j sh i = if U (s 10 (i - 1) 0) = 8 then (rac s γ t j sh (i - 1) + dz s γ t (i - 1) j) % qg γ else rac s γ t j sh (i - 1) := by
        rw [show i = i - 1 + 1 from by omega]; rfl
      by_cases h8 : U (s 10 (i - 1) 0) = 8
      · rw [if_pos (Or.inl h8)] at hw
        rw [if_pos h8] at hrac
        refine ⟨va_up g1 36 (upd (g1 36) (j - 1) (I (rac s γ t j sh i))), ⟨by omega, d1.tr (FrM.up (l := [36]) (by simp)) (fun _ h => h) (fun _ h => h), ?_⟩, ?_⟩
        · rw [vu_eq, d2, show i + 1 - 1 = i from by omega]
          funext x
          by_cases ex : x = j - 1
          · subst ex; rw [upd_eq, upd_eq]
          · rw [upd_ne ex, upd_ne ex, upd_ne ex]
        · have hix : 7 * I i - 7 = I (7 * (i - 1)) := by rw [I7, I_mul, I_sub (by omega)]; congr 1; omega
          have hj7 : jin (I j - 1) 7 := by rw [I1, I_sub hj.1, I_jin (by omega)]; omega
          have hjcl : (I j - 1).toNatClampNeg = j - 1 := by rw [I1, I_sub hj.1, I_cl (by omega)]
          obtain ⟨⟨y1, y2⟩, -⟩ := kCo (i - 1) (by omega) 0 (by omega)
          have y3 := y2.2
          have hdl : dlt s γ t 0 (i - 1) j < qg γ := Nat.mod_lt _ (by omega)
          have hdzl : dz s γ t (i - 1) j < qg γ := Nat.mod_lt _ (by omega)
          have hval : jrem (I (dlt s γ t 0 (i - 1) j) - g1 19 (7 * (i - 1)) + I (qg γ)) (I (qg γ)) = I (dz s γ t (i - 1) j) := by
            rw [show g1 19 (7 * (i - 1)) = I (U (s 0 (i - 1) 0)) from by rw [← y2.1]; exact y1, I_subA (by omega), I_rem (by omega) (by omega)]
            refine congrArg I ?_
            have e1 : Cg (qg γ) (dlt s γ t 0 (i - 1) j) (hs (fun k => U (s 0 (i - 1) k)) j t) := Cg.md _ _
            have e2 : hs (fun k => U (s 0 (i - 1) k)) j t = U (s 0 (i - 1) 0) + j * hs (fun k => U (s 0 (i - 1) (k + 1))) j (t - 1) := by
              match t, ht1 with
              | t + 1, _ => exact hs_succ _ _ _
            rw [e2] at e1
            have e3 : Cg (qg γ) (dlt s γ t 0 (i - 1) j + qg γ - U (s 0 (i - 1) 0)) (j * hs (fun k => U (s 0 (i - 1) (k + 1))) j (t - 1)) := by
              apply Cg.cancel (c := U (s 0 (i - 1) 0))
              rw [show dlt s γ t 0 (i - 1) j + qg γ - U (s 0 (i - 1) 0) + U (s 0 (i - 1) 0) = dlt s γ t 0 (i - 1) j + qg γ from by omega]
              have e4 : Cg (qg γ) (dlt s γ t 0 (i - 1) j + qg γ) (dlt s γ t 0 (i - 1) j) := Nat.add_mod_right _ _
              exact e4.tr (e1.tr (Cg.of (by omega)))
            exact e3
          rw [L_Mod_refresh_43, k11, if_neg (show ¬ I n < I i by rw [I_lt (by omega) (by omega)]; omega), show f_Mod_works (I i) 8 g1 = _ from hw, Option.bind_some, if_pos (show ¬ I 1 = 0 by decide), (mfx hC1 ⟨d0, by omega⟩ (by omega)).1, Option.bind_some, hix, if_pos (show jin (I (7 * (i - 1))) 49 by rw [I_jin (by omega)]; omega), k10, if_pos hqn, I_cl (by omega)]
          simp only [jlet]
          rw [hval, if_pos hj7, if_pos hqn, if_pos hj7, hjcl, d2, upd_eq, I_add, I_rem (by omega) (by omega), ← hrac, Option.bind_some, I1, I_add]
      · rw [if_neg (by have := w2.2; omega)] at hw
        rw [if_neg h8] at hrac
        refine ⟨g1, ⟨by omega, d1, ?_⟩, ?_⟩
        · rw [d2, show i + 1 - 1 = i from by omega, hrac]
        · rw [L_Mod_refresh_43, k11, if_neg (show ¬ I n < I i by rw [I_lt (by omega) (by omega)]; omega), show f_Mod_works (I i) 8 g1 = _ from hw, Option.bind_some, if_neg (show ¬ ¬ I 0 = 0 from fun e => e rfl)]
          simp only [jlet, I1, I_add, Option.bind_some])
    (fun k g1 hP => by
      rw [L_Mod_refresh_43, hP.2.1 11 (by decide), h11, if_pos (show I n < I (n + 1) by rw [I_lt (by omega) (by omega)]; omega)]) n 1 jF g (by omega) (by unfold jF; omega) ⟨by omega, FrM.rf, by
        rw [show rac s γ t j sh (1 - 1) = sh from rfl, upd_self h36]⟩
  exact ⟨g', e, c1, c2⟩
theorem fa_refresh {s : jU} {g : jS} (h : Rel s g) : FaV Rel [(xS, 1)] s (f_SR_refresh s) (f_Mod_refresh g) := by
  unfold FaV f_SR_refresh f_Mod_refresh
  rcases done_or h with ⟨γ, n, t, n0, t0, dm, em, b, hS, hd⟩ | ⟨hd, hm⟩
  · left
    rw [hd, done_t (st := 0) (r := 0) hS]
    obtain ⟨-, -, hc, hd', -⟩ := hS.1
    have hC : Cx s (va_up g 0 (fun _ => 0)) γ n t := ⟨hc, hd', h.2.1, hS.2.1, hS.2.2.1, hS.2.2.2.1⟩
    obtain ⟨⟨h50, h53, h9, h10, hγ⟩, ⟨h20, h11, h21, h12, ht1, htn, hn7⟩, -⟩ := id hC
    have hSh := hS.2.2.2.2.2.2.2.1
    have hq := qg_b γ
    have hsh : ∀ i < n, (g 36 i = s 9 i 0 ∧ OK (qg γ) (s 9 i 0)) := fun i hi => ((hSh i hi).1 (by omega)).1
    -- the class
    obtain ⟨s1, e1, -, c1, c2⟩ := loopU L_Room_renewShares_2 (n + 1) (fun j s1 => 1 ≤ j ∧ FrC [28] s s1 ∧ ∀ j', 1 ≤ j' → j' < j → s1 28 0 j' = I (rac s γ t j' (U (s 9 (j' - 1) 0)) n))
      (fun k j s1 hj hP => by
        obtain ⟨d0, d1, d2⟩ := hP
        have hC1 : Cx s1 (va_up g 0 (fun _ => 0)) γ n t := hC.fr d1 (FrM.rf (l := [])) (by decide) (by decide)
        obtain ⟨u1, u2⟩ := hsh (j - 1) (by omega)
        have hr := rs_c (j := j) hC1 ⟨d0, by omega⟩ u2.2
        rw [← u2.1] at hr
        have hrs : ∀ i, rac s1 γ t j (U (s 9 (j - 1) 0)) i = rac s γ t j (U (s 9 (j - 1) 0)) i := fun i => by
          induction i with
          | zero => rfl
          | succ i ih => unfold rac dz; rw [ih, d1 10 (by decide), d1 0 (by decide)]
        have h8 : jin (I j) 8 := by rw [I_jin (by omega)]; omega
        refine ⟨ups s1 28 0 (upd (s1 28 0) j (I (rac s γ t j (U (s 9 (j - 1) 0)) n))), ⟨by omega, d1.tr (FrC.up (l := [28]) (by simp)) (fun _ h => h) (fun _ h => h), fun j' h1 h2 => ?_⟩, ?_⟩
        · rw [ups_eq]
          by_cases ej : j' = j
          · subst ej; rw [upd_eq]
          · rw [upd_ne ej]; exact d2 j' h1 (by omega)
        · rw [L_Room_renewShares_2, hC1.2.1.1, if_neg (show ¬ I n < I j by rw [I_lt (by omega) (by omega)]; omega), jidx_P ⟨d0, by omega⟩, Option.bind_some, if_pos (show jin 0 2 by decide), show (0 : Int32).toNatClampNeg = 0 from rfl, d1 9 (by decide)]
          simp only [jlet]
          rw [hr, Option.bind_some]
          simp only
          rw [if_pos h8, I_cl (by omega), hrs, I1, I_add])
      (fun k s1 hP => by
        rw [L_Room_renewShares_2, hP.2.1 20 (by decide), h20, if_pos (show I n < I (n + 1) by rw [I_lt (by omega) (by omega)]; omega)]) n 1 jF s (by omega) (by unfold jF; omega) ⟨by omega, FrC.rf, fun j' a b => by omega⟩
    obtain ⟨s2, e2, f1, f2⟩ := take_spec s1
    -- the reference
    obtain ⟨g1, e3, -, k1, k2, k3⟩ := loopU L_Mod_refresh_33 (n + 1) (fun j g1 => 1 ≤ j ∧ FrM [36, 37] (va_up g 0 (fun _ => 0)) g1 ∧ (∀ x, j ≤ x + 1 → g1 36 x = g 36 x) ∧ ∀ x, x + 1 < j → g1 36 x = I (rac s γ t (x + 1) (U (s 9 x 0)) n) ∧ g1 37 x = I 0)
      (fun k j g1 hj hP => by
        obtain ⟨d0, d1, d2, d3⟩ := hP
        have hC1 : Cx s g1 γ n t := hC.fr (FrC.rf (l := [])) d1 (by decide) (by decide)
        obtain ⟨u1, u2⟩ := hsh (j - 1) (by omega)
        obtain ⟨g2, r1, r2, r3⟩ := rs_m (j := j) hC1 ⟨d0, by omega⟩ u2.2 (by rw [d2 (j - 1) (by omega), u1]; exact u2.1)
        have hj7 : jin (I j - 1) 7 := by rw [I1, I_sub d0, I_jin (by omega)]; omega
        have hjcl : (I j - 1).toNatClampNeg = j - 1 := by rw [I1, I_sub d0, I_cl (by omega)]
        refine ⟨va_up g2 37 (upd (g2 37) (j - 1) 0), ⟨by omega, (d1.tr r2 (fun _ h => h) (by decide)).tr (FrM.up (l := [37]) (by simp)) (fun _ h => h) (by decide), fun x hx => ?_, fun x hx => ?_⟩, ?_⟩
        · rw [vu_ne (show 36 ≠ 37 by decide), r3, upd_ne (by omega)]; exact d2 x (by omega)
        · rw [vu_ne (show 36 ≠ 37 by decide), vu_eq, r3]
          by_cases ex : x = j - 1
          · subst ex; rw [upd_eq, upd_eq, show j - 1 + 1 = j from by omega]; exact ⟨rfl, rfl⟩
          · rw [upd_ne ex, upd_ne ex, r2 37 (by decide)]; exact d3 x (by omega)
        · rw [L_Mod_refresh_33, hC1.2.1.2.1, if_neg (show ¬ I n < I j by rw [I_lt (by omega) (by omega)]; omega), show L_Mod_refresh_43 (I j) jF 1 g1 = _ from r1, Option.bind_some]
          simp only [jlet]
          rw [if_pos hj7, hjcl, I1, I_add])
      (fun k g1 hP => by
        rw [L_Mod_refresh_33, hP.2.1 11 (by decide), show va_up g 0 (fun _ => (0 : Int32)) 11 0 = I n from h11, if_pos (show I n < I (n + 1) by rw [I_lt (by omega) (by omega)]; omega)]) n 1 jF (va_up g 0 (fun _ => 0)) (by omega) (by unfold jF; omega) ⟨by omega, FrM.rf, fun x _ => rfl, fun x hx => by omega⟩
    obtain ⟨g2, e4, z1, z2, z3⟩ := mforget_spec g1
    have FM : FrM [0, 11, 12, 19, 20, 21, 22, 36, 37, 38] g g2 := fun K hK => by
      simp at hK
      rw [z3 K (by omega) (by omega) (by omega) (by omega), k1 K (by simp; omega), vu_ne (by omega)]
    refine ⟨s2, g2, ?_, ?_, ?_, fresh_rel h.1 h.2.1 hS (c1.tr f1 (by decide) (by decide)) FM ?_ ?_ ?_ ?_ ⟨ht1, htn, hn7⟩ (fun k hk => ⟨(f2 k hk).1, (f2 k hk).2.1⟩) ⟨z1, z2⟩ (fun i hi => ?_)⟩
    · simp only [jtry]
      unfold f_Room_renewShares
      rw [show L_Room_renewShares_2 jF 1 s = _ from e1, Option.bind_some]
      simp only
      rw [e2]; rfl
    · simp only [Option.bind_some, jlet]
      rw [if_pos (show va_up g 0 (fun _ => (0 : Int32)) 0 0 ≤ 0 from le00), show L_Mod_refresh_33 jF 1 (va_up g 0 (fun _ => 0)) = _ from e3, Option.bind_some]
      simp only
      rw [e4]; rfl
    · show some (g2 0 0) = _
      rw [z3 0 (by decide) (by decide) (by decide) (by decide), k1 0 (by decide)]; rfl
    · rw [f1 20 (by decide), c1 20 (by decide)]; exact h20
    · rw [z3 11 (by decide) (by decide) (by decide) (by decide), k1 11 (by decide)]; exact h11
    · rw [f1 21 (by decide), c1 21 (by decide)]; exact h21
    · rw [z3 12 (by decide) (by decide) (by decide) (by decide), k1 12 (by decide)]; exact h12
    · obtain ⟨v1, v2⟩ := k3 i (by omega)
      obtain ⟨-, -, v3, v4⟩ := f2 i (by omega)
      rw [z3 36 (by decide) (by decide) (by decide) (by decide), z3 37 (by decide) (by decide) (by decide) (by decide), v1, v2, v3, v4, c2 (i + 1) (by omega) (by omega), show i + 1 - 1 = i from by omega]
      exact ⟨⟨rfl, OK_I (rac_lt (hsh i hi).2.2 n) (by omega)⟩, rfl, OK0 (by omega) (by omega)⟩
  · right
    rw [hd]
    have := hm (some 0)
    rw [this]
    exact ⟨xS, 1, va_up g 0 (fun _ => 1), by simp, rfl, rfl, rfl, Rel_0 _ h⟩

/-! handOn -/
theorem com_or (y z : Int32) : (∃ n t, y = I n ∧ z = I t ∧ 1 ≤ t ∧ t ≤ n ∧ n ≤ 7 ∧ f_Room_isCommittee y z = some (I 1) ∧ (if y < 1 then some (2 : Int32) else if 7 < y then some 2 else if z < 1 then some 2 else if z ≤ y then some 0 else some 2) = some 0) ∨ (f_Room_isCommittee y z = some (I 0) ∧ (if y < 1 then some (2 : Int32) else if 7 < y then some 2 else if z < 1 then some 2 else if z ≤ y then some 0 else some 2) = some 2) := by
  unfold f_Room_isCommittee
  by_cases h1 : y < 1
  · right; rw [if_pos h1, if_pos h1]; exact ⟨rfl, rfl⟩
  rw [if_neg h1, if_neg h1]
  by_cases h2 : 7 < y
  · right; rw [if_pos h2, if_pos h2]; exact ⟨rfl, rfl⟩
  rw [if_neg h2, if_neg h2]
  by_cases h3 : z < 1
  · right; rw [if_pos h3, if_pos h3]; exact ⟨rfl, rfl⟩
  rw [if_neg h3, if_neg h3]
  rcases I_cases y with hy | ⟨n, rfl, hn⟩
  · exact absurd (show y < 1 from ng_lt (n := 1) hy (by decide)) h1
  rcases I_cases z with hz | ⟨t, rfl, ht⟩
  · exact absurd (show z < 1 from ng_lt (n := 1) hz (by decide)) h3
  rw [I1, I_lt (by omega) (by omega)] at h1 h3
  rw [I7, I_lt (by omega) (by omega)] at h2
  by_cases h4 : t ≤ n
  · left
    refine ⟨n, t, rfl, rfl, by omega, h4, by omega, ?_, ?_⟩
    · rw [if_neg (show ¬ I n < I t by rw [I_lt (by omega) (by omega)]; omega)]; rfl
    · rw [if_pos (show I t ≤ I n by rw [I_le (by omega) (by omega)]; omega)]
  · right
    rw [if_pos (show I n < I t by rw [I_lt (by omega) (by omega)]; omega), if_neg (show ¬ I t ≤ I n by rw [I_le (by omega) (by omega)]; omega)]
    exact ⟨rfl, rfl⟩
/-- what party i hands to j, before its weight -/
def hv (s : jU) (γ t i j : Nat) : Nat := (U (s 9 i 0) + j * hs (fun k => U (s 0 i (k + 1))) j (t - 1)) % qg γ
def hac (s : jU) (γ t m j : Nat) (w : Nat → Nat) : Nat → Nat
  | 0 => 0
  | i + 1 => if bt m (i + 1) = true then (hac s γ t m j w i + w i * hv s γ t i j % qg γ) % qg γ else hac s γ t m j w i
theorem hac_lt {s : jU} {γ t m j : Nat} {w : Nat → Nat} : ∀ i, hac s γ t m j w i < qg γ
  | 0 => by have := qg_b γ; unfold hac; omega
  | i + 1 => by
    unfold hac
    split
    · exact Nat.mod_lt _ (by have := qg_b γ; omega)
    · exact hac_lt i
theorem hv_lt {s : jU} {γ t i j : Nat} : hv s γ t i j < qg γ := Nat.mod_lt _ (by have := qg_b γ; omega)
/-- one dealer's part, the class -/
theorem add_spec {s : jU} {γ n' t' i w : Nat} (hγ : γ < 2) (h53 : s 53 0 0 = I (1 + γ)) (hi : 1 ≤ i ∧ i ≤ 7) (ht : 1 ≤ t' ∧ t' ≤ 7) (hn : n' ≤ 7) (hw : w < qg γ) (hsh : OK (qg γ) (s 9 (i - 1) 0)) (hc : ∀ k < 7, OK (qg γ) (s 0 (i - 1) k)) (h28 : ∀ j, 1 ≤ j → j ≤ n' → OK (qg γ) (s 28 0 j)) : ∃ s', f_Room_addDealt (I i) (I w) (I t') (I n') s = some s' ∧ FrC [28] s s' ∧ ∀ j, 1 ≤ j → j ≤ n' → s' 28 0 j = I ((U (s 28 0 j) + w * hv s γ t' (i - 1) j % qg γ) % qg γ) := by
  have hq := qg_b γ
  obtain ⟨s', e, -, c1, c2, c3⟩ := loopU (L_Room_addDealt_3 (I i) (I w) (I t') (I n')) (n' + 1) (fun j s1 => 1 ≤ j ∧ FrC [28] s s1 ∧ (∀ x, j ≤ x → s1 28 0 x = s 28 0 x) ∧ ∀ x, 1 ≤ x → x < j → s1 28 0 x = I ((U (s 28 0 x) + w * hv s γ t' (i - 1) x % qg γ) % qg γ))
    (fun k j s1 hj hP => by
      obtain ⟨d0, d1, d2, d3⟩ := hP
      have h8 : jin (I j) 8 := by rw [I_jin (by omega)]; omega
      have k53 : s1 53 0 0 = I (1 + γ) := by rw [d1 53 (by decide)]; exact h53
      have hd := dfrom_spec (s := s1) (p := i) (t := t') (j := j) (sh := U (s 9 (i - 1) 0)) hγ k53 hi ht (by omega) hsh.2 (fun k hk => by rw [d1 0 (by decide)]; exact hc k hk)
      rw [d1 0 (by decide), ← hsh.1] at hd
      have hvl := hv_lt (s := s) (γ := γ) (t := t') (i := i - 1) (j := j)
      have hwl : w * hv s γ t' (i - 1) j % qg γ < qg γ := Nat.mod_lt _ (by omega)
      have o28 := h28 j d0 (by omega)
      have o28' := o28.2
      refine ⟨ups s1 28 0 (upd (s1 28 0) j (I ((U (s 28 0 j) + w * hv s γ t' (i - 1) j % qg γ) % qg γ))), ⟨by omega, d1.tr (FrC.up (l := [28]) (by simp)) (fun _ h => h) (fun _ h => h), fun x hx => ?_, fun x h1 h2 => ?_⟩, ?_⟩
      · rw [ups_eq, upd_ne (by omega)]; exact d2 x (by omega)
      · rw [ups_eq]
        by_cases ex : x = j
        · subst ex; rw [upd_eq]
        · rw [upd_ne ex]; exact d3 x h1 (by omega)
      · rw [L_Room_addDealt_3, if_neg (show ¬ I n' < I j by rw [I_lt (by omega) (by omega)]; omega), jidx_P hi, Option.bind_some, if_pos (show jin 0 2 by decide), show (0 : Int32).toNatClampNeg = 0 from rfl, d1 9 (by decide), hd, Option.bind_some, if_pos h8, k53, fnum_q hγ]
        rw [show I ((U (s 9 (i - 1) 0) + j * hs (fun k => U (s 0 (i - 1) (k + 1))) j (t' - 1)) % qg γ) = I (hv s γ t' (i - 1) j) from rfl, F_tm hγ (by omega) (by omega), Option.bind_some, I_cl (by omega), d2 j (Nat.le_refl _)]
        have hpl := F_pl (a := U (s 28 0 j)) (b := w * hv s γ t' (i - 1) j % qg γ) hγ (by omega) (by omega)
        rw [← o28.1] at hpl
        rw [hpl, Option.bind_some, if_pos h8]
        simp only [jlet]
        rw [I1, I_add])
    (fun k s1 hP => by
      rw [L_Room_addDealt_3, if_pos (show I n' < I (n' + 1) by rw [I_lt (by omega) (by omega)]; omega)]) n' 1 jF s (by omega) (by unfold jF; omega) ⟨by omega, FrC.rf, fun _ _ => rfl, fun x a b => by omega⟩
  refine ⟨s', ?_, c1, fun j h1 h2 => c3 j h1 (by omega)⟩
  unfold f_Room_addDealt
  rw [show L_Room_addDealt_3 (I i) (I w) (I t') (I n') jF 1 s = _ from e]; rfl
/-- all dealers, the class -/
theorem hand_c {s : jU} {g g0 : jS} {γ n t m n' t' : Nat} (hC : Cx s g γ n t) (hm7 : m < 128) (hP : Ptm s g0 γ m) (ht : 1 ≤ t' ∧ t' ≤ 7) (hn : n' ≤ 7) (hsh : ∀ j < n, OK (qg γ) (s 9 j 0)) (h28 : ∀ j < 8, s 28 0 j = I 0) : letI := Fd_cr (1 + γ); ∃ y z s', L_Room_handTo_19 (I m) (I t') (I n') jF 0 1 s = some (y, z, s') ∧ FrC [28] s s' ∧ ∀ j, 1 ≤ j → j ≤ n' → s' 28 0 j = I (hac s γ t' m j (fun i => WN (1 + γ) (s 34 0) (pcn m 7) (pcn m i) 0) n) := by
  letI := Fd_cr (1 + γ)
  obtain ⟨⟨h50, h53, h9, h10, hγ⟩, ⟨h20, h11, h21, h12, ht1, htn, hn7⟩, hT, hCo, hFa, hCr⟩ := id hC
  have hq := qg_b γ
  have hPt := Ptm_pt hγ hP
  have key : ∀ (d i k : Nat) (s1 : jU), i + d = n → d < k → FrC [28] s s1 → (∀ j, 1 ≤ j → j ≤ n' → s1 28 0 j = I (hac s γ t' m j (fun i => WN (1 + γ) (s 34 0) (pcn m 7) (pcn m i) 0) i)) → ∃ y z s', L_Room_handTo_19 (I m) (I t') (I n') k (I (pcn m i)) (I (i + 1)) s1 = some (y, z, s') ∧ FrC [28] s s' ∧ ∀ j, 1 ≤ j → j ≤ n' → s' 28 0 j = I (hac s γ t' m j (fun i => WN (1 + γ) (s 34 0) (pcn m 7) (pcn m i) 0) n) := by
    intro d
    induction d with
    | zero =>
      intro i k s1 hi hk hF hV
      match k, hk with
      | k + 1, _ =>
        have e : i = n := by omega
        subst e
        rw [L_Room_handTo_19, hF 20 (by decide), h20, if_pos (show I i < I (i + 1) by rw [I_lt (by omega) (by omega)]; omega)]
        exact ⟨_, _, _, rfl, hF, hV⟩
    | succ d ih =>
      intro i k s1 hi hk hF hV
      match k, hk with
      | k + 1, hk =>
        have k53 : s1 53 0 0 = I (1 + γ) := by rw [hF 53 (by decide)]; exact h53
        have hpb := pcn_bit m hm7 (i + 1) (by omega) (by omega)
        rw [show i + 1 - 1 = i from by omega] at hpb
        have hb0 : ∀ (A B : Option (Int32 × jU)), (Option.bind (f_SR_bit (I (i + 1))) fun z => if (I m &&& z) = 0 then A else B) = if bt m (i + 1) = true then B else A := fun A B => pbit rfl hm7 ⟨by omega, by omega⟩ A B
        have eq : L_Room_handTo_19 (I m) (I t') (I n') (k + 1) (I (pcn m i)) (I (i + 1)) s1 = Option.bind (if bt m (i + 1) = true then Option.bind (f_Points_weight 1 (I (pcn m i)) 0 s1) fun x22 => Option.bind (f_Room_addDealt (I (i + 1)) x22 (I t') (I n') s1) fun s26 => some (I (pcn m i + 1), s26) else some (I (pcn m i), s1)) fun r => L_Room_handTo_19 (I m) (I t') (I n') k r.1 (I (i + 1 + 1)) r.2 := by
          rw [L_Room_handTo_19, hF 20 (by decide), h20, if_neg (show ¬ I n < I (i + 1) by rw [I_lt (by omega) (by omega)]; omega), show I (i + 1) + 1 = I (i + 1 + 1) from I_add (i + 1) 1]
          simp only [jlet]
          rw [show I (pcn m i) + 1 = I (pcn m i + 1) from I_add _ 1, ← Option.bind_assoc, hb0]
        by_cases hb : bt m (i + 1) = true
        · rw [if_pos hb] at hpb
          have hlt := pcn_lt7 m hm7 (i + 1) (by omega) (by omega) hb
          rw [show i + 1 - 1 = i from by omega] at hlt
          have hwt := wt_spec (s := s1) (k0 := 1) (i := pcn m i) (v := (0 : FdM (1 + γ))) (f := 1 + γ) (c := pcn m 7) (by rw [hF (30 + 4 * 1) (by decide), hF (31 + 4 * 1) (by decide)]; exact hPt) (by rw [hF (51 + 1) (by decide)]; exact hP.2.1) (by rw [hF (33 + 4 * 1) (by decide)]; exact hP.2.2.1) hlt
          rw [hF (30 + 4 * 1) (by decide)] at hwt
          have hwl : WN (1 + γ) (s 34 0) (pcn m 7) (pcn m i) 0 < qg γ := by
            have := WN_lt (1 + γ) (s 34 0) (pcn m 7) (pcn m i) 0
            rwa [qf_qg hγ] at this
          have hac_ok : ∀ j, 1 ≤ j → j ≤ n' → OK (qg γ) (s1 28 0 j) := fun j h1 h2 => by
            rw [hV j h1 h2]; exact OK_I (hac_lt i) (by omega)
          obtain ⟨s2, r1, r2, r3⟩ := add_spec (s := s1) (i := i + 1) (w := WN (1 + γ) (s 34 0) (pcn m 7) (pcn m i) 0) hγ k53 ⟨by omega, by omega⟩ ht hn hwl (by rw [hF 9 (by decide), show i + 1 - 1 = i from by omega]; exact hsh i (by omega)) (fun k hk => by rw [hF 0 (by decide), show i + 1 - 1 = i from by omega]; exact (hCo i (by omega) k hk).1.2) hac_ok
          have hvs : ∀ j, hv s1 γ t' i j = hv s γ t' i j := fun j => by unfold hv; rw [hF 9 (by decide), hF 0 (by decide)]
          have eq2 : L_Room_handTo_19 (I m) (I t') (I n') (k + 1) (I (pcn m i)) (I (i + 1)) s1 = L_Room_handTo_19 (I m) (I t') (I n') k (I (pcn m (i + 1))) (I (i + 1 + 1)) s2 := by
            rw [eq, if_pos hb, show f_Points_weight 1 (I (pcn m i)) 0 s1 = _ from hwt, Option.bind_some]
            rw [show f_Room_addDealt (I (i + 1)) (I (WN (1 + γ) (s (30 + 4 * 1) 0) (pcn m 7) (pcn m i) 0)) (I t') (I n') s1 = _ from r1, hpb]; rfl
          rw [eq2]
          refine ih (i + 1) k s2 (by omega) (by omega) (hF.tr r2 (fun _ h => h) (fun _ h => h)) (fun j h1 h2 => ?_)
          have hal := hac_lt (s := s) (γ := γ) (t := t') (m := m) (j := j) (w := fun i => WN (1 + γ) (s 34 0) (pcn m 7) (pcn m i) 0) i
          rw [r3 j h1 h2, hV j h1 h2, U_I (by omega), show i + 1 - 1 = i from by omega, hvs, hac, if_pos hb]
        · rw [if_neg hb] at hpb
          have eq2 : L_Room_handTo_19 (I m) (I t') (I n') (k + 1) (I (pcn m i)) (I (i + 1)) s1 = L_Room_handTo_19 (I m) (I t') (I n') k (I (pcn m (i + 1))) (I (i + 1 + 1)) s1 := by
            rw [eq, if_neg hb, hpb]; rfl
          rw [eq2]
          refine ih (i + 1) k s1 (by omega) (by omega) hF (fun j h1 h2 => ?_)
          rw [hV j h1 h2, hac, if_neg hb]
  exact key n 0 jF s (by omega) (by unfold jF; omega) FrC.rf (fun j h1 h2 => by rw [h28 j (by omega)]; rfl)
/-- the reference's sum over the coefficients -/
theorem h114 {s : jU} {g : jS} {γ n t t' i j : Nat} (hC : Cx s g γ n t) (hz : rCz s t) (hi : 1 ≤ i ∧ i ≤ 7) (hj : j ≤ 7) (ht : 1 ≤ t' ∧ t' ≤ 7) (hsh : OK (qg γ) (s 9 (i - 1) 0)) : ∃ y, L_Mod_handOn_114 (I t') (I j) g (I i) jF (s 9 (i - 1) 0) 1 = some (I (hv s γ t' (i - 1) j), y) := by
  obtain ⟨⟨h50, h53, h9, h10, hγ⟩, ⟨h20, h11, h21, h12, ht1, htn, hn7⟩, hT, hCo, hFa, hCr⟩ := id hC
  have hq := qg_b γ
  have hqn : ¬ I (qg γ) = 0 := by rw [I0, I_eq (by omega) (by omega)]; omega
  -- the polynomial with the share in front
  have hc : ∃ c : Nat → Nat, c 0 = U (s 9 (i - 1) 0) ∧ (∀ k, c (k + 1) = U (s 0 (i - 1) (k + 1))) := ⟨fun k => if k = 0 then U (s 9 (i - 1) 0) else U (s 0 (i - 1) k), rfl, fun k => rfl⟩
  obtain ⟨c, c0, c1⟩ := hc
  have hck : ∀ k, 1 ≤ k → c k = U (s 0 (i - 1) k) := fun k hk => by
    have := c1 (k - 1); rwa [show k - 1 + 1 = k from by omega] at this
  have hhv : ∀ T, 1 ≤ T → hs c j T = U (s 9 (i - 1) 0) + j * hs (fun k => U (s 0 (i - 1) (k + 1))) j (T - 1) := fun T hT => by
    match T, hT with
    | T + 1, _ =>
      rw [hs_succ, c0]
      congr 2
      exact hs_congr T (fun k _ => c1 k)
  have hzero : ∀ d, t + d ≤ 7 → hs c j (t + d) = hs c j t := fun d => by
    induction d with
    | zero => intro _; rfl
    | succ d ih =>
      intro hd
      rw [← Nat.add_assoc, hs_s, ih (by omega), hck (t + d) (by omega), hz (i - 1) (by omega) (t + d) (by omega) (by omega), U_I (by omega), Nat.zero_mul]; rfl
  have key : ∀ (d k n1 a : Nat), k + d = 8 → d < n1 → 1 ≤ k → (k ≤ t' ∨ t ≤ k) → a < qg γ → a % qg γ = hs c j (min k t') % qg γ → ∃ y, L_Mod_handOn_114 (I t') (I j) g (I i) n1 (I a) (I k) = some (I (hv s γ t' (i - 1) j), y) := by
    intro d
    induction d with
    | zero =>
      intro k n1 a hk hn1 hk1 hkt ha he
      match n1, hn1 with
      | n1 + 1, _ =>
        rw [L_Mod_handOn_114, if_pos (show I t' ≤ I k by rw [I_le (by omega) (by omega)]; omega)]
        refine ⟨I k, ?_⟩
        rw [show min k t' = t' from by omega, Nat.mod_eq_of_lt ha, hhv t' ht.1] at he
        rw [he]; rfl
    | succ d ih =>
      intro k n1 a hk hn1 hk1 hkt ha he
      match n1, hn1 with
      | n1 + 1, hn1 =>
        by_cases h1 : t' ≤ k
        · rw [L_Mod_handOn_114, if_pos (show I t' ≤ I k by rw [I_le (by omega) (by omega)]; omega)]
          refine ⟨I k, ?_⟩
          rw [show min k t' = t' from by omega, Nat.mod_eq_of_lt ha, hhv t' ht.1] at he
          rw [he]; rfl
        · rw [L_Mod_handOn_114, if_neg (show ¬ I t' ≤ I k by rw [I_le (by omega) (by omega)]; omega), h12]
          rw [show min k t' = k from by omega] at he
          by_cases h2 : t ≤ k
          · rw [if_pos (show I t ≤ I k by rw [I_le (by omega) (by omega)]; omega)]
            refine ⟨I k, ?_⟩
            have e1 : hs c j k = hs c j t' := by
              have a1 := hzero (k - t) (by omega)
              have a2 := hzero (t' - t) (by omega)
              rw [show t + (k - t) = k from by omega] at a1
              rw [show t + (t' - t) = t' from by omega] at a2
              rw [a1, a2]
            rw [e1, Nat.mod_eq_of_lt ha, hhv t' ht.1] at he
            rw [he]; rfl
          · obtain ⟨⟨y1, y2⟩, -⟩ := hCo (i - 1) (by omega) k (by omega)
            have y3 := y2.2
            have hpm : j ^ k % qg γ < qg γ := Nat.mod_lt _ (by omega)
            have hb : U (s 0 (i - 1) k) * (j ^ k % qg γ) < 1019 * 1019 := Nat.mul_lt_mul_of_lt_of_lt (by omega) (by omega)
            rw [if_neg (show ¬ I t ≤ I k by rw [I_le (by omega) (by omega)]; omega), ix7 hi.1, if_pos (by rw [I_jin (by omega)]; omega), mp_spec h10 hq (by omega) (by omega), Option.bind_some, h10, if_pos hqn, I_cl (by omega), y1]
            simp only [jlet]
            have e38 : s 0 (i - 1) k = I (U (s 0 (i - 1) k)) := y2.1
            have hck' := hck k hk1
            generalize U (s 0 (i - 1) k) = u at e38 y3 hb hck'
            rw [e38, I_mul, I1, I_add, I_add, I_rem (by omega) (by omega)]
            refine ih (k + 1) n1 _ (by omega) (by omega) (by omega) (by omega) (Nat.mod_lt _ (by omega)) ?_
            rw [show min (k + 1) t' = k + 1 from by omega, hs_s, hck']
            exact (Cg.md _ _).tr (Cg.ad he (Cg.rf.ml (Cg.md _ _)))
  have := key 7 1 jF (U (s 9 (i - 1) 0)) (by omega) (by unfold jF; omega) (by omega) (by omega) hsh.2 (by rw [show min 1 t' = 1 from by omega, hhv 1 (by omega)]; simp [hs])
  rw [← hsh.1] at this
  exact this
theorem h79 {s : jU} {g g0 : jS} {γ n t m t' j : Nat} (hC : Cx s g γ n t) (hz : rCz s t) (hm7 : m < 128) (hP : Ptm s g0 γ m) (ht : 1 ≤ t' ∧ t' ≤ 7) (hj : j ≤ 7) (hsh : ∀ j < n, g 36 j = s 9 j 0 ∧ OK (qg γ) (s 9 j 0)) : letI := Fd_cr (1 + γ); ∃ y, L_Mod_handOn_79 (I m) (I t') (I j) g jF 0 1 = some (I (hac s γ t' m j (fun i => WN (1 + γ) (s 34 0) (pcn m 7) (pcn m i) 0) n), y) := by
  letI := Fd_cr (1 + γ)
  obtain ⟨⟨h50, h53, h9, h10, hγ⟩, ⟨h20, h11, h21, h12, ht1, htn, hn7⟩, hT, hCo, hFa, hCr⟩ := id hC
  have hq := qg_b γ
  have hqn : ¬ I (qg γ) = 0 := by rw [I0, I_eq (by omega) (by omega)]; omega
  have key : ∀ (d i k : Nat), i + d = n → d < k → ∃ y, L_Mod_handOn_79 (I m) (I t') (I j) g k (I (hac s γ t' m j (fun i => WN (1 + γ) (s 34 0) (pcn m 7) (pcn m i) 0) i)) (I (i + 1)) = some (I (hac s γ t' m j (fun i => WN (1 + γ) (s 34 0) (pcn m 7) (pcn m i) 0) n), y) := by
    intro d
    induction d with
    | zero =>
      intro i k hi hk
      match k, hk with
      | k + 1, _ =>
        have e : i = n := by omega
        subst e
        rw [L_Mod_handOn_79, h11, if_pos (show I i < I (i + 1) by rw [I_lt (by omega) (by omega)]; omega)]
        exact ⟨_, rfl⟩
    | succ d ih =>
      intro i k hi hk
      match k, hk with
      | k + 1, hk =>
        have ihi := ih (i + 1) k (by omega) (by omega)
        rw [L_Mod_handOn_79, h11, if_neg (show ¬ I n < I (i + 1) by rw [I_lt (by omega) (by omega)]; omega), min_spec hm7 (by omega) (by omega), Option.bind_some, show I (i + 1) + 1 = I (i + 1 + 1) from I_add (i + 1) 1]
        have hal := hac_lt (s := s) (γ := γ) (t := t') (m := m) (j := j) (w := fun i => WN (1 + γ) (s 34 0) (pcn m 7) (pcn m i) 0) i
        by_cases hb : bt m (i + 1) = true
        · have hw := mw_spec (g := g) hγ hP h10 (p := i + 1) ⟨by omega, by omega⟩ hb
          rw [show i + 1 - 1 = i from by omega] at hw
          obtain ⟨u1, u2⟩ := hsh i (by omega)
          obtain ⟨y, e114⟩ := h114 (i := i + 1) (j := j) (t' := t') hC hz ⟨by omega, by omega⟩ hj ht (by rw [show i + 1 - 1 = i from by omega]; exact u2)
          rw [show i + 1 - 1 = i from by omega] at e114
          have hwl : WN (1 + γ) (s 34 0) (pcn m 7) (pcn m i) 0 < qg γ := by
            have := WN_lt (1 + γ) (s 34 0) (pcn m 7) (pcn m i) 0
            rwa [qf_qg hγ] at this
          have hvl := hv_lt (s := s) (γ := γ) (t := t') (i := i) (j := j)
          have hmu : WN (1 + γ) (s 34 0) (pcn m 7) (pcn m i) 0 * hv s γ t' i j < 1019 * 1019 := Nat.mul_lt_mul_of_lt_of_lt (by omega) (by omega)
          rw [hac, if_pos hb] at ihi
          rw [if_pos hb, if_pos (show ¬ I 1 = 0 by decide), I_m2, if_pos (show jin (I i) 7 by rw [I_jin (by omega)]; omega), I_cl (by omega), u1]
          simp only [jlet]
          rw [e114, Option.bind_some]
          simp only
          rw [hw, Option.bind_some, h10, if_pos hqn, I_mul, I_add, I_rem (by omega) (by omega), Option.bind_some]
          rw [Nat.add_mod_mod] at ihi
          exact ihi
        · rw [hac, if_neg hb] at ihi
          rw [if_neg hb, if_neg (show ¬ ¬ I 0 = 0 from fun e => e rfl), Option.bind_some]
          simp only [jlet]
          exact ihi
  exact key n 0 jF (by omega) (by unfold jF; omega)
theorem m230 (g : jS) {n' : Nat} (hn : n' ≤ 7) (h11 : g 11 0 = I n') : ∃ g', L_Mod_handOn_230 jF 0 g = some (I 7, g') ∧ FrM [36, 37] g g' ∧ ∀ j < 7, g' 36 j = (if j < n' then g 38 j else I 0) ∧ g' 37 j = I 0 := by
  obtain ⟨g', e, c1, c2⟩ := loopU L_Mod_handOn_230 7 (fun i g1 => FrM [36, 37] g g1 ∧ ∀ j < i, g1 36 j = (if j < n' then g 38 j else I 0) ∧ g1 37 j = I 0)
    (fun n i g1 hi hP => by
      obtain ⟨d1, d2⟩ := hP
      have h7 : jin (I i) 7 := by rw [I_jin (by omega)]; omega
      refine ⟨va_up (va_up g1 36 (upd (g1 36) i (if i < n' then g 38 i else I 0))) 37 (upd (g1 37) i 0), ⟨(d1.tr (FrM.up (l := [36]) (by simp)) (fun _ h => h) (by decide)).tr (FrM.up (l := [37]) (by simp)) (fun _ h => h) (by decide), fun j hj => ?_⟩, ?_⟩
      · rw [vu_ne (show 36 ≠ 37 by decide), vu_eq, vu_eq]
        by_cases e : j = i
        · subst e; rw [upd_eq, upd_eq]; exact ⟨rfl, rfl⟩
        · rw [upd_ne e, upd_ne e]; exact d2 j (by omega)
      · rw [L_Mod_handOn_230, if_neg (show ¬ 7 ≤ I i by rw [I7, I_le (by omega) (by omega)]; omega), d1 11 (by decide), h11, if_pos h7, I_cl (by omega), d1 38 (by decide)]
        have hsel : (if I n' ≤ I i then some (0 : Int32) else some (g 38 i)) = some (if i < n' then g 38 i else I 0) := by
          by_cases h : i < n'
          · rw [if_neg (show ¬ I n' ≤ I i by rw [I_le (by omega) (by omega)]; omega), if_pos h]
          · rw [if_pos (show I n' ≤ I i by rw [I_le (by omega) (by omega)]; omega), if_neg h]; rfl
        rw [hsel, Option.bind_some, if_pos h7]
        simp only [jlet]
        rw [if_pos h7, I1, I_add]; rfl)
    (fun n g1 hP => by rw [L_Mod_handOn_230, if_pos (by decide)]) 7 0 jF g (by omega) (by unfold jF; omega) ⟨FrM.rf, fun j hj => by omega⟩
  exact ⟨g', e, c1, c2⟩
theorem fa_handOn {s : jU} {g : jS} (h : Rel s g) (x y z : Int32) : FaV Rel [(xS, 1), (xA, 2)] s (f_SR_handOn x y z s) (f_Mod_handOn x y z g) := by
  unfold FaV f_SR_handOn f_Mod_handOn
  rcases done_or h with ⟨γ, n, t, n0, t0, dm, em, b, hS, hd⟩ | ⟨hd, hm⟩
  · rw [hd, done_t (st := 0) (r := 0) hS]
    obtain ⟨-, -, hc, hd', ⟨-, -, -, -, hz⟩⟩ := hS.1
    have hC : Cx s (va_up g 0 (fun _ => 0)) γ n t := ⟨hc, hd', h.2.1, hS.2.1, hS.2.2.1, hS.2.2.2.1⟩
    obtain ⟨⟨h50, h53, h9, h10, hγ⟩, ⟨h20, h11, h21, h12, ht1, htn, hn7⟩, -⟩ := id hC
    have hSh := hS.2.2.2.2.2.2.2.1
    have hq := qg_b γ
    have hsh : ∀ i < n, (g 36 i = s 9 i 0 ∧ OK (qg γ) (s 9 i 0)) := fun i hi => ((hSh i hi).1 (by omega)).1
    rcases enough_or (g := g) h20 h11 h21 h12 hn7 (by omega) x with ⟨m, rfl, hm, hm7, e1, e2⟩ | ⟨e1, e2⟩
    · rw [e1, e2, Option.bind_some, if_neg (show ¬ I 1 = 0 by decide)]
      rcases com_or z y with ⟨n', t', rfl, rfl, a1, a2, a3, a4, a5⟩ | ⟨a4, a5⟩
      · left
        rw [a4, a5]
        letI := Fd_cr (1 + γ)
        -- the class
        obtain ⟨s1, c1, c2, c3⟩ := csh (g := va_up g 38 (g 36)) hγ h53 h20 hn7 hm hm7 (fun j hj => hsh j hj)
        have F1 : FrC [28, 34, 35, 37, 52] s (ups s1 28 0 (afl 8 0 (s1 28 0))) := c2.tr (FrC.up (l := [28]) (by simp)) (by decide) (by decide)
        have hC1 : Cx (ups s1 28 0 (afl 8 0 (s1 28 0))) (va_up g 0 (fun _ => 0)) γ n t := hC.fr F1 (FrM.rf (l := [])) (by decide) (by decide)
        have P1 : Ptm (ups s1 28 0 (afl 8 0 (s1 28 0))) (va_up g 38 (g 36)) γ m := Ptm_fr c3 (FrC.up (l := [28]) (by simp)) (FrM.rf (l := [])) (by decide) (by decide)
        have x9 : ups s1 28 0 (afl 8 0 (s1 28 0)) 9 = s 9 := F1 9 (by decide)
        obtain ⟨u, v, s2, r1, r2, r3⟩ := hand_c (n' := n') (t' := t') hC1 hm7 P1 ⟨a1, by omega⟩ a3 (fun j hj => by rw [x9]; exact (hsh j hj).2) (fun j hj => by rw [ups_eq, afl_lt hj]; rfl)
        obtain ⟨s3, q1, q2, q3⟩ := take_spec (ups (ups s2 20 0 (fun _ => I n')) 21 0 (fun _ => I t'))
        -- the reference
        obtain ⟨g1, e3, -, k1, k2⟩ := loopU (L_Mod_handOn_67 (I m) (I t') (I n')) (n' + 1) (fun j g1 => 1 ≤ j ∧ FrM [38] (va_up g 0 (fun _ => 0)) g1 ∧ ∀ x, x + 1 < j → g1 38 x = I (hac (ups s1 28 0 (afl 8 0 (s1 28 0))) γ t' m (x + 1) (fun i => WN (1 + γ) (ups s1 28 0 (afl 8 0 (s1 28 0)) 34 0) (pcn m 7) (pcn m i) 0) n))
          (fun k j g1 hj hP => by
            obtain ⟨d0, d1, d2⟩ := hP
            have hC2 : Cx (ups s1 28 0 (afl 8 0 (s1 28 0))) g1 γ n t := hC1.fr (FrC.rf (l := [])) d1 (by decide) (by decide)
            obtain ⟨w, e79⟩ := h79 (j := j) (t' := t') hC2 (rCz_fr hz F1 (by decide)) hm7 P1 ⟨a1, by omega⟩ (by omega) (fun i hi => by
              rw [x9, d1 36 (by decide)]; exact hsh i hi)
            have hj7 : jin (I j - 1) 7 := by rw [I1, I_sub d0, I_jin (by omega)]; omega
            have hjcl : (I j - 1).toNatClampNeg = j - 1 := by rw [I1, I_sub d0, I_cl (by omega)]
            refine ⟨va_up g1 38 (upd (g1 38) (j - 1) (I (hac (ups s1 28 0 (afl 8 0 (s1 28 0))) γ t' m j (fun i => WN (1 + γ) (ups s1 28 0 (afl 8 0 (s1 28 0)) 34 0) (pcn m 7) (pcn m i) 0) n))), ⟨by omega, d1.tr (FrM.up (l := [38]) (by simp)) (fun _ h => h) (fun _ h => h), fun x hx => ?_⟩, ?_⟩
            · rw [vu_eq]
              by_cases ex : x = j - 1
              · subst ex; rw [upd_eq, show j - 1 + 1 = j from by omega]
              · rw [upd_ne ex]; exact d2 x (by omega)
            · rw [L_Mod_handOn_67, if_neg (show ¬ I n' < I j by rw [I_lt (by omega) (by omega)]; omega), e79, Option.bind_some]
              simp only [jlet]
              rw [if_pos hj7, hjcl, I1, I_add])
          (fun k g1 hP => by
            rw [L_Mod_handOn_67, if_pos (show I n' < I (n' + 1) by rw [I_lt (by omega) (by omega)]; omega)]) n' 1 jF (va_up g 0 (fun _ => 0)) (by omega) (by unfold jF; omega) ⟨by omega, FrM.rf, fun x hx => by omega⟩
        obtain ⟨g2, e4, z1, z2, z3⟩ := mforget_spec (va_up (va_up g1 11 (fun _ => I n')) 12 (fun _ => I t'))
        obtain ⟨g3, e5, y1, y2⟩ := m230 g2 (n' := n') a3 (by rw [z3 11 (by decide) (by decide) (by decide) (by decide)]; rfl)
        have FM : FrM [0, 11, 12, 19, 20, 21, 22, 36, 37, 38] g g3 := fun K hK => by
          simp at hK
          rw [y1 K (by simp; omega), z3 K (by omega) (by omega) (by omega) (by omega), vu_ne (by omega), vu_ne (by omega), k1 K (by simp; omega), vu_ne (by omega)]
        have FC : FrC [0, 1, 2, 9, 10, 20, 21, 28, 34, 35, 37, 52] s s3 := (((F1.tr r2 (by decide) (by decide) (l := [0, 1, 2, 9, 10, 20, 21, 28, 34, 35, 37, 52])).tr (FrC.up (l := [20]) (by simp)) (fun _ h => h) (by decide)).tr (FrC.up (l := [21]) (by simp)) (fun _ h => h) (by decide)).tr q2 (fun _ h => h) (by decide)
        refine ⟨s3, g3, ?_, ?_, ?_, fresh_rel h.1 h.2.1 hS FC FM ?_ ?_ ?_ ?_ ⟨a1, a2, a3⟩ (fun k hk => ⟨(q3 k hk).1, (q3 k hk).2.1⟩) ⟨?_, ?_⟩ (fun i hi => ?_)⟩
        · simp only [jtry, Option.bind_some, if_pos (show ¬ I 1 = 0 by decide)]
          unfold f_Room_handTo
          rw [c1, Option.bind_some]
          simp only [jlet]
          rw [show L_Room_handTo_19 (I m) (I t') (I n') jF 0 1 _ = _ from r1, Option.bind_some]
          simp only
          rw [q1]; rfl
        · simp only [Option.bind_some, jlet]
          rw [if_pos (show va_up g 0 (fun _ => (0 : Int32)) 0 0 ≤ 0 from le00), show L_Mod_handOn_67 (I m) (I t') (I n') jF 1 (va_up g 0 (fun _ => 0)) = _ from e3, Option.bind_some]
          simp only
          rw [e4, Option.bind_some, show L_Mod_handOn_230 jF 0 g2 = _ from e5]; rfl
        · show some (g3 0 0) = _
          rw [y1 0 (by decide), z3 0 (by decide) (by decide) (by decide) (by decide), vu_ne (by decide), vu_ne (by decide), k1 0 (by decide)]; rfl
        · rw [q2 20 (by decide)]; rfl
        · rw [y1 11 (by decide), z3 11 (by decide) (by decide) (by decide) (by decide)]; rfl
        · rw [q2 21 (by decide)]; rfl
        · rw [y1 12 (by decide), z3 12 (by decide) (by decide) (by decide) (by decide)]; rfl
        · intro j hj
          rw [y1 19 (by decide), y1 20 (by decide), y1 21 (by decide)]; exact z1 j hj
        · intro j hj
          rw [y1 22 (by decide)]; exact z2 j hj
        · obtain ⟨v1, v2⟩ := y2 i (by omega)
          obtain ⟨-, -, v3, v4⟩ := q3 i (by omega)
          have hs28 : ups (ups s2 20 0 (fun _ => I n')) 21 0 (fun _ => I t') 28 = s2 28 := rfl
          rw [v1, if_pos hi, v2, v3, v4, hs28, r3 (i + 1) (by omega) (by omega), z3 38 (by decide) (by decide) (by decide) (by decide), vu_ne (by decide), vu_ne (by decide), k2 i (by omega)]
          exact ⟨⟨rfl, OK_I (hac_lt n) (by omega)⟩, rfl, OK0 (by omega) (by omega)⟩
      · right
        rw [a4, a5]
        exact ⟨xA, 2, va_up g 0 (fun _ => 2), by simp, rfl, rfl, rfl, Rel_0 _ h⟩
    · right
      rw [e1, e2]
      exact ⟨xA, 2, va_up g 0 (fun _ => 2), by simp, rfl, rfl, rfl, Rel_0 _ h⟩
  · right
    rw [hd, hm]
    exact ⟨xS, 1, va_up g 0 (fun _ => 1), by simp, rfl, rfl, rfl, Rel_0 _ h⟩

