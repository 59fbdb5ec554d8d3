def I (a : Nat) : Int32 := Int32.ofNat a
theorem I_toInt {a : Nat} (h : a < 2147483648) : (I a).toInt = a := by
  exact Int32.toInt_ofNat_of_lt h
theorem I_eta (x : Int32) (h : 0 ≤ x) : x = I x.toInt.toNat ∧ x.toInt.toNat < 2147483648 := by
  have h0 : 0 ≤ x.toInt := by simpa [Int32.le_iff_toInt_le] using h
  have h1 := x.toInt_lt
  refine ⟨?_, by omega⟩
  apply Int32.toInt_inj.mp
  rw [I_toInt (by omega)]; omega
theorem I_add (a b : Nat) : I a + I b = I (a + b) := by unfold I; rw [← Int32.ofNat_add]
theorem I_mul (a b : Nat) : I a * I b = I (a * b) := by unfold I; rw [← Int32.ofNat_mul]
theorem I_sub {a b : Nat} (h : b ≤ a) : I a - I b = I (a - b) := by
  have h2 : a = (a - b) + b := by omega
  rw [h2, ← I_add, Nat.add_sub_cancel]; simp
theorem I_le {a b : Nat} (ha : a < 2147483648) (hb : b < 2147483648) : I a ≤ I b ↔ a ≤ b := by
  rw [Int32.le_iff_toInt_le, I_toInt ha, I_toInt hb]; omega
theorem I_lt {a b : Nat} (ha : a < 2147483648) (hb : b < 2147483648) : I a < I b ↔ a < b := by
  rw [Int32.lt_iff_toInt_lt, I_toInt ha, I_toInt hb]; omega
theorem I_eq {a b : Nat} (ha : a < 2147483648) (hb : b < 2147483648) : I a = I b ↔ a = b := by
  rw [← Int32.toInt_inj, I_toInt ha, I_toInt hb]; omega
theorem I_jin {a N : Nat} (ha : a < 2147483648) : jin (I a) N ↔ a < N := by
  unfold jin; rw [I_toInt ha]; omega
theorem I_cl {a : Nat} (ha : a < 2147483648) : (I a).toNatClampNeg = a := by
  unfold Int32.toNatClampNeg; rw [I_toInt ha]; simp
theorem I_div {a b : Nat} (ha : a < 2147483648) (hb : b < 2147483648) : I a / I b = I (a / b) := by
  apply Int32.toInt_inj.mp
  have hd : a / b ≤ a := Nat.div_le_self a b
  rw [Int32.toInt_div, I_toInt ha, I_toInt hb, I_toInt (by omega)]
  rw [show ((a : Int).tdiv (b : Int)) = ((a / b : Nat) : Int) from by
    rw [Int.tdiv_eq_ediv_of_nonneg (by omega)]; simp]
  generalize a / b = k at hd ⊢
  exact Int.bmod_eq_of_le (Int.le_trans (by decide) (Int.natCast_nonneg k)) (by simp; omega)
theorem I_rem {a b : Nat} (ha : a < 2147483648) (hb : b < 2147483648) : jrem (I a) (I b) = I (a % b) := by
  unfold jrem
  have h : a / b * b ≤ a := Nat.div_mul_le_self a b
  rw [I_div ha hb, I_mul, I_sub h]
  congr 1
  have := Nat.div_add_mod a b
  rw [Nat.mul_comm] at this; omega
theorem I_subA {a b c : Nat} (h : b ≤ a + c) : I a - I b + I c = I (a + c - b) := by
  rw [Int32.sub_eq_add_neg, Int32.add_assoc, Int32.add_comm (-I b), ← Int32.add_assoc, ← Int32.sub_eq_add_neg, I_add, I_sub h]
theorem I_negs (a : Nat) (h : 1 ≤ a) : I a + (-1) = I (a - 1) := by
  rw [← I_sub h]; rw [Int32.sub_eq_add_neg]; rfl
theorem I0 : (0 : Int32) = I 0 := rfl
theorem I1 : (1 : Int32) = I 1 := rfl
theorem I2 : (2 : Int32) = I 2 := rfl
theorem I3 : (3 : Int32) = I 3 := rfl
theorem I4 : (4 : Int32) = I 4 := rfl
theorem I5 : (5 : Int32) = I 5 := rfl
theorem I6 : (6 : Int32) = I 6 := rfl
theorem I7 : (7 : Int32) = I 7 := rfl
theorem I8 : (8 : Int32) = I 8 := rfl
theorem I9 : (9 : Int32) = I 9 := rfl
theorem I10 : (10 : Int32) = I 10 := rfl
theorem I11 : (11 : Int32) = I 11 := rfl
theorem I12 : (12 : Int32) = I 12 := rfl
theorem I13 : (13 : Int32) = I 13 := rfl
theorem I14 : (14 : Int32) = I 14 := rfl
theorem I15 : (15 : Int32) = I 15 := rfl
theorem I16 : (16 : Int32) = I 16 := rfl
theorem I31 : (31 : Int32) = I 31 := rfl
theorem I49 : (49 : Int32) = I 49 := rfl
theorem I63 : (63 : Int32) = I 63 := rfl
theorem I64 : (64 : Int32) = I 64 := rfl
theorem I127 : (127 : Int32) = I 127 := rfl
theorem I128 : (128 : Int32) = I 128 := rfl
theorem I255 : (255 : Int32) = I 255 := rfl
theorem I256 : (256 : Int32) = I 256 := rfl
theorem I1019 : (1019 : Int32) = I 1019 := rfl
theorem I2039 : (2039 : Int32) = I 2039 := rfl

/-! the Nat that an int holds -/
def U (x : Int32) : Nat := x.toInt.toNat
theorem U_I {a : Nat} (h : a < 2147483648) : U (I a) = a := by unfold U; rw [I_toInt h]; simp
/-- an int below q -/
def OK (q : Nat) (x : Int32) : Prop := x = I (U x) ∧ U x < q
theorem OK_I {q a : Nat} (h : a < q) (hq : q ≤ 2147483648) : OK q (I a) := by
  unfold OK; rw [U_I (by omega)]; exact ⟨rfl, h⟩
theorem OK_mono {q q2 : Nat} {x : Int32} (h : OK q x) (hq : q ≤ q2) : OK q2 x := ⟨h.1, Nat.lt_of_lt_of_le h.2 hq⟩
/-! bits -/
def bt (m k : Nat) : Bool := m.testBit (k - 1)
theorem B_shl : ∀ k < 8, (1 : Int32) <<< ((I k - 1) &&& 31) = I (if k = 0 then 2147483648 else 2 ^ (k - 1)) := by decide +kernel
theorem B_bit {k : Nat} (h1 : 1 ≤ k) (h : k < 8) : (1 : Int32) <<< ((I k - 1) &&& 31) = I (2 ^ (k - 1)) := by
  rw [B_shl k h, if_neg (by omega)]
theorem B_or : ∀ m < 128, ∀ k < 128, I m ||| I k = I (m ||| k) := by decide +kernel
theorem B_and : ∀ m < 128, ∀ k < 128, I m &&& I k = I (m &&& k) := by decide +kernel
theorem B_tst : ∀ m < 128, ∀ k < 7, (I m &&& I (2 ^ k) = 0 ↔ m.testBit k = false) := by decide +kernel
theorem B_in : ∀ m < 128, ∀ k < 8, (1 ≤ k → ((I m >>> ((I k - 1) &&& 31)) &&& 1 = 1 ↔ bt m k = true)) := by decide +kernel
theorem B_mask : ∀ k < 8, ((1 : Int32) <<< (I k &&& 31)) - 1 = I (2 ^ k - 1) := by decide +kernel
def popc (m : Nat) : Nat := (List.range 7).countP (fun k => m.testBit k)
theorem B_pop : ∀ m < 128, f_Integer_bitCount (I m) = some (I (popc m)) := by decide +kernel
theorem B_bits : ∀ m < 128, f_Mod_bits (I m) = some (I (popc m)) := by decide +kernel
theorem bt_or (m j k : Nat) : bt (m ||| 2 ^ (j - 1)) k = (bt m k || decide (j - 1 = k - 1)) := by
  unfold bt; rw [Nat.testBit_or, Nat.testBit_two_pow]
theorem or_lt {m j : Nat} (hm : m < 128) (hj : j < 8) : m ||| 2 ^ (j - 1) < 128 :=
  Nat.or_lt_two_pow (n := 7) hm (Nat.pow_lt_pow_of_lt (by decide) (by omega))
theorem and_lt {m j : Nat} (hm : m < 128) : m &&& j < 128 := Nat.lt_of_le_of_lt Nat.and_le_left hm
theorem p2_lt {j : Nat} (hj : j < 8) : 2 ^ (j - 1) < 128 := by
  have h : 2 ^ (j - 1) < 2 ^ 7 := Nat.pow_lt_pow_of_lt (by decide) (by omega)
  simpa using h

/-! ===== congruence ===== -/
def Cg (q a b : Nat) : Prop := a % q = b % q
theorem Cg.rf {q a : Nat} : Cg q a a := rfl
theorem Cg.sy {q a b : Nat} (h : Cg q a b) : Cg q b a := Eq.symm h
theorem Cg.tr {q a b c : Nat} (h : Cg q a b) (h2 : Cg q b c) : Cg q a c := Eq.trans h h2
theorem Cg.ad {q a b c d : Nat} (h : Cg q a b) (h2 : Cg q c d) : Cg q (a + c) (b + d) := by
  unfold Cg at *; rw [Nat.add_mod, h, h2, ← Nat.add_mod]
theorem Cg.ml {q a b c d : Nat} (h : Cg q a b) (h2 : Cg q c d) : Cg q (a * c) (b * d) := by
  unfold Cg at *; rw [Nat.mul_mod, h, h2, ← Nat.mul_mod]
theorem Cg.pw {q a b : Nat} (h : Cg q a b) : ∀ n : Nat, Cg q (a ^ n) (b ^ n)
  | 0 => rfl
  | n + 1 => by rw [Nat.pow_succ, Nat.pow_succ]; exact (Cg.pw h n).ml h
theorem Cg.md (q a : Nat) : Cg q (a % q) a := Nat.mod_mod a q
theorem Cg.of {q a b : Nat} (h : a = b) : Cg q a b := by rw [h]; rfl
theorem Cg.eq {q a b : Nat} (h : Cg q a b) (ha : a < q) (hb : b < q) : a = b := by
  unfold Cg at h; rwa [Nat.mod_eq_of_lt ha, Nat.mod_eq_of_lt hb] at h
theorem Cg.cancel {q a b c : Nat} (h : Cg q (a + c) (b + c)) : Cg q a b := by
  cases Nat.eq_zero_or_pos q with
  | inl h0 => subst h0; unfold Cg at *; simp at *; omega
  | inr hq =>
    have h1 : Cg q (a + c + (q - c % q)) (b + c + (q - c % q)) := h.ad Cg.rf
    have e : ∀ x, Cg q (x + c + (q - c % q)) x := fun x => by
      have hc := Nat.mod_lt c hq
      have h3 : Cg q (x + c + (q - c % q)) (x + c % q + (q - c % q)) := (Cg.rf.ad (Cg.md q c).sy).ad Cg.rf
      refine h3.tr ?_
      rw [show x + c % q + (q - c % q) = x + q from by omega]
      exact Nat.add_mod_right x q
    exact (e a).sy.tr (h1.tr (e b))
/-! ===== the groups: an element by its exponent ===== -/
def qg (γ : Nat) : Nat := if γ = 0 then 1019 else 31
def hh (γ : Nat) : Nat := if γ = 0 then 515 else 4
def crv (e : Nat) : Nat := ([4000, 140, 455, 2261, 1362, 780, 1887, 1618, 2088, 1320, 2695, 2585, 2404, 853, 2216, 2453, 2454, 2179, 854, 2375, 2578, 2724, 1283, 2051, 1625, 1868, 799, 1369, 2262, 484, 159] : List Nat).getD e 0
def el (γ e : Nat) : Int32 := if γ = 0 then I (4 ^ e % 2039) else I (crv e)
theorem qg_b (γ : Nat) : 31 ≤ qg γ ∧ qg γ ≤ 1019 := by unfold qg; split <;> omega
theorem hh_b (γ : Nat) : hh γ < qg γ := by unfold qg hh; split <;> omega
theorem el0_per (e : Nat) : 4 ^ e % 2039 = 4 ^ (e % 1019) % 2039 := by
  have h : Cg 2039 (4 ^ e) (4 ^ (e % 1019)) := by
    have e1 : 4 ^ e = (4 ^ 1019) ^ (e / 1019) * 4 ^ (e % 1019) := by
      rw [← Nat.pow_mul, ← Nat.pow_add]; congr 1; omega
    rw [e1]
    have h1 : Cg 2039 (4 ^ 1019) 1 := by unfold Cg; decide +kernel
    have h2 : Cg 2039 ((4 ^ 1019) ^ (e / 1019)) (1 ^ (e / 1019)) := h1.pw _
    rw [Nat.one_pow] at h2
    have h3 := h2.ml (Cg.rf (a := 4 ^ (e % 1019)))
    rwa [Nat.one_mul] at h3
  exact h
theorem el0_ne : ∀ k < 1019, k ≠ 0 → 4 ^ k % 2039 ≠ 1 := by decide +kernel
theorem crv_mul : ∀ a < 31, ∀ b < 31, f_Curve_product (I (crv a)) (I (crv b)) = some (I (crv ((a + b) % 31))) := by decide +kernel
theorem crv_inj : ∀ a < 31, ∀ b < 31, crv a = crv b → a = b := by decide +kernel
theorem crv_lt : ∀ a < 31, crv a < 4096 := by decide +kernel
theorem el_per {γ e : Nat} (hγ : γ < 2) (he : e < qg γ) : el γ e = el γ (e % qg γ) := by rw [Nat.mod_eq_of_lt he]
theorem el_mul {γ a b : Nat} (hγ : γ < 2) (ha : a < qg γ) (hb : b < qg γ) : G_product γ (el γ a) (el γ b) = some (el γ ((a + b) % qg γ)) := by
  match γ, hγ with
  | 0, _ =>
    unfold G_product f_Square_product el
    simp only [if_true, qg]
    have h1 := Nat.mod_lt (4 ^ a) (show 2039 > 0 by decide)
    have h2 := Nat.mod_lt (4 ^ b) (show 2039 > 0 by decide)
    have h3 : 4 ^ a % 2039 * (4 ^ b % 2039) < 2039 * 2039 := Nat.mul_lt_mul_of_lt_of_lt h1 h2
    rw [I_mul, show (2039 : Int32) = I 2039 from rfl, I_rem (by omega) (by decide), ← el0_per, Nat.pow_add, ← Nat.mul_mod]
  | 1, _ =>
    have h := crv_mul a ha b hb
    unfold G_product el
    simpa [qg] using h
theorem el_lt {γ a : Nat} (hγ : γ < 2) (ha : a < qg γ) : OK 4096 (el γ a) := by
  match γ, hγ with
  | 0, _ => exact OK_I (Nat.lt_of_lt_of_le (Nat.mod_lt _ (by decide)) (by decide)) (by decide)
  | 1, _ => exact OK_I (crv_lt a ha) (by decide)
theorem el_inj {γ a b : Nat} (hγ : γ < 2) (ha : a < qg γ) (hb : b < qg γ) (h : el γ a = el γ b) : a = b := by
  match γ, hγ with
  | 0, _ =>
    have h1 : 4 ^ a % 2039 < 2039 := Nat.mod_lt _ (by decide)
    have h2 : 4 ^ b % 2039 < 2039 := Nat.mod_lt _ (by decide)
    have h : Cg 2039 (4 ^ a) (4 ^ b) := (I_eq (by omega) (by omega)).mp h
    have key : ∀ a b : Nat, a < 1019 → b < 1019 → a ≤ b → Cg 2039 (4 ^ a) (4 ^ b) → a = b := fun a b ha hb hab h => by
      have h3 : Cg 2039 (4 ^ a * 4 ^ (1019 - a)) (4 ^ b * 4 ^ (1019 - a)) := h.ml Cg.rf
      rw [← Nat.pow_add, ← Nat.pow_add, show a + (1019 - a) = 1019 from by omega, show b + (1019 - a) = (b - a) + 1019 from by omega] at h3
      have h4 : 4 ^ (b - a + 1019) % 2039 = 4 ^ ((b - a + 1019) % 1019) % 2039 := el0_per _
      have h5 : 4 ^ 1019 % 2039 = 4 ^ (1019 % 1019) % 2039 := el0_per _
      have h6 : 4 ^ 1019 % 2039 = 4 ^ (b - a + 1019) % 2039 := h3
      rw [h4, h5, Nat.add_mod_right, Nat.mod_eq_of_lt (show b - a < 1019 by omega)] at h6
      false_or_by_contra
      exact el0_ne (b - a) (by omega) (by omega) h6.symm
    cases Nat.le_total a b with
    | inl hab => exact key a b ha hb hab h
    | inr hab => exact (key b a hb ha hab h.sy).symm
  | 1, _ =>
    have h1 := crv_lt a ha
    have h2 := crv_lt b hb
    exact crv_inj a ha b hb ((I_eq (by omega) (by omega)).mp h)
theorem gneu_el {γ : Nat} (hγ : γ < 2) : gneu γ = el γ 0 := by
  match γ, hγ with | 0, _ => rfl | 1, _ => rfl
theorem ggen_el {γ : Nat} (hγ : γ < 2) : ggen γ = el γ 1 := by
  match γ, hγ with | 0, _ => rfl | 1, _ => rfl
theorem ghei_el {γ : Nat} (hγ : γ < 2) : ghei γ = el γ (hh γ) := by
  match γ, hγ with
  | 0, _ =>
    have h : 4 ^ hh 0 % 2039 = 9 := by decide +kernel
    unfold ghei el; rw [if_pos rfl, if_pos rfl, h]; rfl
  | 1, _ => decide +kernel
theorem P_odd : ∀ e < 1024, (I e &&& 1 = 1 ↔ e % 2 = 1) := by decide +kernel
theorem P_half : ∀ e < 1024, I e >>> (1 &&& 31) = I (e / 2) := by decide +kernel
theorem pow_loop {γ : Nat} (hγ : γ < 2) : ∀ (n e a b : Nat), e < 1024 → e < n → a < qg γ → b < qg γ → ∃ y z, L_Group_power_11 γ n (el γ a) (el γ b) (I e) = some (el γ ((a + b * e) % qg γ), y, z) := by
  intro n
  induction n with
  | zero => intro e a b _ h; omega
  | succ n ih =>
    intro e a b he hn ha hb
    have hq := (qg_b γ).1
    unfold L_Group_power_11
    by_cases h0 : e = 0
    · subst h0
      rw [if_pos (by decide)]
      exact ⟨_, _, by rw [Nat.mul_zero, Nat.add_zero, Nat.mod_eq_of_lt ha]⟩
    · rw [if_neg (by rw [I0, I_le (by omega) (by omega)]; omega)]
      simp only [P_odd e he, P_half e he, el_mul hγ hb hb, el_mul hγ ha hb, jlet, Option.bind_some]
      by_cases h1 : e % 2 = 1
      · rw [if_neg (by omega)]
        obtain ⟨y, z, h⟩ := ih (e / 2) ((a + b) % qg γ) ((b + b) % qg γ) (by omega) (by omega) (Nat.mod_lt _ (by omega)) (Nat.mod_lt _ (by omega))
        refine ⟨y, z, ?_⟩
        rw [Option.bind_some, h]
        have hc : Cg (qg γ) ((a + b) % qg γ + (b + b) % qg γ * (e / 2)) (a + b * e) := by
          refine ((Cg.md _ _).ad ((Cg.md _ _).ml Cg.rf)).tr (Cg.of ?_)
          rw [show b * e = b * (2 * (e / 2) + 1) from by congr 1; omega]
          grind
        rw [hc]
      · rw [if_pos h1]
        obtain ⟨y, z, h⟩ := ih (e / 2) a ((b + b) % qg γ) (by omega) (by omega) ha (Nat.mod_lt _ (by omega))
        refine ⟨y, z, ?_⟩
        rw [Option.bind_some, h]
        have hc : Cg (qg γ) (a + (b + b) % qg γ * (e / 2)) (a + b * e) := by
          refine (Cg.rf.ad ((Cg.md _ _).ml Cg.rf)).tr (Cg.of ?_)
          rw [show b * e = b * (2 * (e / 2)) from by congr 1; omega]
          grind
        rw [hc]
theorem el_pow {γ a e : Nat} (hγ : γ < 2) (ha : a < qg γ) (he : e < 1024) : f_Group_power γ (el γ a) (I e) = some (el γ (a * e % qg γ)) := by
  simp only [f_Group_power, jlet]
  have hq := (qg_b γ).1
  rw [gneu_el hγ]
  obtain ⟨y, z, h⟩ := pow_loop hγ jF e 0 a he (by unfold jF; omega) (by omega) ha
  rw [h, Nat.zero_add]; rfl
theorem el_gpow {γ e : Nat} (hγ : γ < 2) (he : e < 1024) : f_Group_power γ (ggen γ) (I e) = some (el γ (e % qg γ)) := by
  have hq := (qg_b γ).1
  rw [ggen_el hγ, el_pow hγ (by omega) he, Nat.one_mul]
theorem el_commit {γ u v : Nat} (hγ : γ < 2) (hu : u < 1024) (hv : v < 1024) : f_Group_commit γ (I u) (I v) = some (el γ ((u + hh γ * v) % qg γ)) := by
  unfold f_Group_commit
  have hq := (qg_b γ).1
  rw [el_gpow hγ hu, ghei_el hγ, el_pow hγ (hh_b γ) hv]
  simp only [Option.bind_some]
  rw [el_mul hγ (Nat.mod_lt _ (by omega)) (Nat.mod_lt _ (by omega)), Option.bind_some, ← Nat.add_mod]
/-! ===== polynomials ===== -/
def hs (c : Nat → Nat) (x : Nat) : Nat → Nat
  | 0 => 0
  | m + 1 => hs c x m + c m * x ^ m
theorem hs_s (c : Nat → Nat) (x m : Nat) : hs c x (m + 1) = hs c x m + c m * x ^ m := rfl
theorem ar1 (a x c p h : Nat) : (a * x + c) * p + h = a * (p * x) + (h + c * p) := by grind
theorem ar2 (a x c p h : Nat) : (a + c) * x * p + x * h = a * (p * x) + x * (h + c * p) := by grind
theorem ar3 (c d h x p q : Nat) : c + h * d + (p + h * q) * x = c + p * x + h * (d + q * x) := by grind
theorem ar4 (c x h p d : Nat) : c + x * h + d * (p * x) = c + x * (h + d * p) := by grind
theorem hs_congr {c d : Nat → Nat} {x : Nat} : ∀ m, (∀ k < m, c k = d k) → hs c x m = hs d x m
  | 0, _ => rfl
  | m + 1, h => by unfold hs; rw [hs_congr m (fun k hk => h k (by omega)), h m (by omega)]
theorem hs_add (c d : Nat → Nat) (h x : Nat) : ∀ m, hs (fun k => c k + h * d k) x m = hs c x m + h * hs d x m
  | 0 => by simp [hs]
  | m + 1 => by rw [hs_s, hs_s, hs_s, hs_add c d h x m]; exact ar3 _ _ _ _ _ _
theorem hs_cg {q : Nat} {c d : Nat → Nat} (x : Nat) : ∀ m, (∀ k < m, Cg q (c k) (d k)) → Cg q (hs c x m) (hs d x m)
  | 0, _ => rfl
  | m + 1, h => by unfold hs; exact (hs_cg x m (fun k hk => h k (by omega))).ad ((h m (by omega)).ml Cg.rf)
theorem I_m1 {m : Nat} (h : m < 2147483648) : (I m - 1 < 0 ↔ m = 0) := by
  cases m with
  | zero => simp; decide
  | succ m => rw [I1, I_sub (by omega), I0, I_lt (by omega) (by decide)]; omega
theorem I_m2 (m : Nat) : I (m + 1) - 1 = I m := by rw [I1, I_sub (by omega)]; rfl
theorem I_m3 (m : Nat) : I m + (-1) = I m - 1 := by rw [Int32.sub_eq_add_neg]
theorem pie_loop {γ x N : Nat} (hγ : γ < 2) (hx : x < 1024) {g0 : Nat → Int32} {c : Nat → Nat} : ∀ (m n a : Nat), m ≤ N → m < 1000 → m < n → a < qg γ → (∀ k < m, g0 k = el γ (c k) ∧ c k < qg γ) → ∃ y, L_Group_polynomialInExponents_11 γ N g0 (I x) n (el γ a) (I m - 1) = some (el γ ((a * x ^ m + hs c x m) % qg γ), y) := by
  intro m
  induction m with
  | zero =>
    intro n a _ _ hn ha _
    match n, hn with
    | n + 1, _ =>
      unfold L_Group_polynomialInExponents_11
      rw [if_pos (by decide)]
      exact ⟨I 0 - 1, by rw [Nat.pow_zero, Nat.mul_one, show hs c x 0 = 0 from rfl, Nat.add_zero, Nat.mod_eq_of_lt ha]⟩
  | succ m ih =>
    intro n a hN hm hn ha hc
    have hq := (qg_b γ).1
    match n, hn with
    | n + 1, hn =>
      unfold L_Group_polynomialInExponents_11
      have hk := hc m (by omega)
      rw [if_neg (by rw [I_m1 (by omega)]; omega), I_m2, el_pow hγ ha hx]
      simp only [Option.bind_some, I_cl (show m < 2147483648 by omega), I_jin (show m < 2147483648 by omega), if_pos (show m < N by omega), hk.1, el_mul hγ (Nat.mod_lt _ (show 0 < qg γ by omega)) hk.2, jlet, I_m3]
      obtain ⟨y, h⟩ := ih n ((a * x % qg γ + c m) % qg γ) (by omega) (by omega) (by omega) (Nat.mod_lt _ (by omega)) (fun k hk => hc k (by omega))
      refine ⟨y, ?_⟩
      rw [h]
      have e : Cg (qg γ) ((a * x % qg γ + c m) % qg γ * x ^ m + hs c x m) (a * x ^ (m + 1) + hs c x (m + 1)) := by
        refine (((((Cg.md _ _).tr ((Cg.md _ _).ad Cg.rf)).ml Cg.rf)).ad Cg.rf).tr (Cg.of ?_)
        rw [hs_s, Nat.pow_succ]
        exact ar1 _ _ _ _ _
      rw [e]
theorem el_pie {γ x t N : Nat} (hγ : γ < 2) (hx : x < 1024) (ht : t < 1000) (hN : t ≤ N) {g0 : Nat → Int32} {c : Nat → Nat} (hc : ∀ k < t, g0 k = el γ (c k) ∧ c k < qg γ) : f_Group_polynomialInExponents γ N g0 (I t) (I x) = some (el γ (hs c x t % qg γ)) := by
  have hq := (qg_b γ).1
  obtain ⟨y, h⟩ := pie_loop hγ hx t jF 0 hN ht (by unfold jF; omega) (by omega) hc
  simp only [f_Group_polynomialInExponents, jlet]
  rw [gneu_el hγ, h]
  simp
/-! prime fields: number 1 + γ -/
theorem fsz_q {γ : Nat} (hγ : γ < 2) : fsz (1 + γ) = I (qg γ) := by
  match γ, hγ with | 0, _ => rfl | 1, _ => rfl
theorem F_pl {γ a b : Nat} (hγ : γ < 2) (ha : a < 1000000) (hb : b < 1000000) : F_plus (1 + γ) (I a) (I b) = some (I ((a + b) % qg γ)) := by
  have hq := qg_b γ
  unfold F_plus f_Prime_plus
  rw [if_neg (by omega), fsz_q hγ, if_pos (by rw [I0, I_eq (by omega) (by omega)]; omega), I_add, I_rem (by omega) (by omega)]
theorem F_tm {γ a b : Nat} (hγ : γ < 2) (ha : a < 1100) (hb : b < 1100) : F_times (1 + γ) (I a) (I b) = some (I (a * b % qg γ)) := by
  have hq := qg_b γ
  have hab : a * b < 1100 * 1100 := Nat.mul_lt_mul_of_lt_of_lt ha hb
  unfold F_times f_Prime_times
  rw [if_neg (by omega), fsz_q hγ, if_pos (by rw [I0, I_eq (by omega) (by omega)]; omega), I_mul, I_rem (by omega) (by omega)]
theorem F_mi {γ a b : Nat} (hγ : γ < 2) (ha : a < 1100) (hb : b ≤ qg γ) : F_minus (1 + γ) (I a) (I b) = some (I ((a + qg γ - b) % qg γ)) := by
  have hq := qg_b γ
  unfold F_minus f_Prime_minus
  rw [if_neg (by omega), fsz_q hγ, if_pos (by rw [I0, I_eq (by omega) (by omega)]; omega), I_subA (by omega), I_rem (by omega) (by omega)]
theorem pat_loop {γ x N : Nat} (hγ : γ < 2) (hx : x < 1100) {g1 : Nat → Int32} {c : Nat → Nat} : ∀ (m n a : Nat), m < N → m < 1000 → m < n → a < qg γ → (∀ k < m, g1 (k + 1) = I (c k) ∧ c k < qg γ) → ∃ y, L_Field_polynomialAt_8 (1 + γ) N g1 (I x) n (I a) (I m) = some (I ((a * x ^ m + x * hs c x m) % qg γ), y) := by
  intro m
  induction m with
  | zero =>
    intro n a _ _ hn ha _
    match n, hn with
    | n + 1, _ =>
      unfold L_Field_polynomialAt_8
      rw [if_pos (by decide)]
      exact ⟨I 0, by rw [Nat.pow_zero, Nat.mul_one, show hs c x 0 = 0 from rfl, Nat.mul_zero, Nat.add_zero, Nat.mod_eq_of_lt ha]⟩
  | succ m ih =>
    intro n a hN hm hn ha hc
    have hq := qg_b γ
    match n, hn with
    | n + 1, hn =>
      unfold L_Field_polynomialAt_8
      have hk := hc m (by omega)
      have hl : (a + c m) % qg γ < qg γ := Nat.mod_lt _ (by omega)
      rw [if_neg (by rw [I0, I_le (by omega) (by omega)]; omega), if_pos (by rw [I_jin (by omega)]; omega), I_cl (by omega), hk.1, F_pl hγ (by omega) (by omega), Option.bind_some, F_tm hγ (by omega) hx, Option.bind_some]
      simp only [jlet, I_m3, I_m2]
      obtain ⟨y, h⟩ := ih n ((a + c m) % qg γ * x % qg γ) (by omega) (by omega) (by omega) (Nat.mod_lt _ (by omega)) (fun k hk => hc k (by omega))
      refine ⟨y, ?_⟩
      rw [h]
      have e : Cg (qg γ) ((a + c m) % qg γ * x % qg γ * x ^ m + x * hs c x m) (a * x ^ (m + 1) + x * hs c x (m + 1)) := by
        refine (((((Cg.md _ _).tr ((Cg.md _ _).ml Cg.rf)).ml Cg.rf)).ad Cg.rf).tr (Cg.of ?_)
        rw [hs_s, Nat.pow_succ]
        exact ar2 _ _ _ _ _
      rw [e]
theorem hs_succ (c : Nat → Nat) (x : Nat) : ∀ m, hs c x (m + 1) = c 0 + x * hs (fun k => c (k + 1)) x m
  | 0 => by simp [hs]
  | m + 1 => by
    rw [hs_s, hs_succ c x m, hs_s, Nat.pow_succ]
    exact ar4 _ _ _ _ _
theorem F_pat {γ x N t p0 : Nat} (hγ : γ < 2) (hx : x < 1100) (ht : t < N) (ht2 : t < 1000) (hp : p0 < qg γ) {g1 : Nat → Int32} {c : Nat → Nat} (hc : ∀ k < t, g1 (k + 1) = I (c k) ∧ c k < qg γ) : f_Field_polynomialAt (1 + γ) (I p0) N g1 (I (t + 1)) (I x) = some (I ((p0 + x * hs c x t) % qg γ)) := by
  have hq := qg_b γ
  obtain ⟨y, h⟩ := pat_loop hγ hx t jF 0 ht ht2 (by unfold jF; omega) (by omega) hc
  have hl : x * hs c x t % qg γ < qg γ := Nat.mod_lt _ (by omega)
  simp only [f_Field_polynomialAt, jlet, I_m2]
  rw [show (0 : Int32) = I 0 from rfl, h]
  simp only [Option.bind_some, Nat.zero_mul, Nat.zero_add]
  rw [F_pl hγ (by omega) (by omega), Option.bind_some, Nat.mod_add_mod, Nat.add_comm]

/-! ===== the reference's sums ===== -/
theorem mp_loop {g : jS} {q x k : Nat} (hg : g 10 0 = I q) (hq : 31 ≤ q ∧ q ≤ 1019) (hx : x < 1100) (hk : k < 1000) : ∀ (d i n a : Nat), i + d = k → d < n → a < q → ∃ y, L_Mod_power_5 (I x) (I k) g n (I a) (I i) = some (I (a * x ^ d % q), y) := by
  intro d
  induction d with
  | zero =>
    intro i n a hi hn ha
    match n, hn with
    | n + 1, _ =>
      unfold L_Mod_power_5
      rw [if_pos (by rw [I_le (by omega) (by omega)]; omega)]
      exact ⟨I i, by rw [Nat.pow_zero, Nat.mul_one, Nat.mod_eq_of_lt ha]⟩
  | succ d ih =>
    intro i n a hi hn ha
    match n, hn with
    | n + 1, hn =>
      have hax : a * x < 1019 * 1100 := Nat.mul_lt_mul_of_lt_of_lt (by omega) hx
      unfold L_Mod_power_5
      rw [if_neg (by rw [I_le (by omega) (by omega)]; omega), hg, if_pos (by rw [I0, I_eq (by omega) (by omega)]; omega)]
      simp only [jlet, I_mul, I1, I_add]
      rw [I_rem (by omega) (by omega)]
      obtain ⟨y, h⟩ := ih (i + 1) n (a * x % q) (by omega) (by omega) (Nat.mod_lt _ (by omega))
      refine ⟨y, ?_⟩
      rw [h]
      have e : Cg q (a * x % q * x ^ d) (a * x ^ (d + 1)) := by
        refine ((Cg.md _ _).ml Cg.rf).tr (Cg.of ?_)
        rw [Nat.pow_succ, Nat.mul_assoc, Nat.mul_comm x]
      rw [e]
theorem mp_spec {g : jS} {q x k : Nat} (hg : g 10 0 = I q) (hq : 31 ≤ q ∧ q ≤ 1019) (hx : x < 1100) (hk : k < 1000) : f_Mod_power (I x) (I k) g = some (I (x ^ k % q)) := by
  obtain ⟨y, h⟩ := mp_loop hg hq hx hk k 0 jF 1 (by omega) (by unfold jF; omega) (by omega)
  unfold f_Mod_power
  rw [I1, I0, h, Nat.one_mul]; rfl
theorem ix7 {p k : Nat} (hp : 1 ≤ p) : (7 * I p - 7) + I k = I (7 * (p - 1) + k) := by
  rw [I7, I_mul, I_sub (by omega), I_add]; congr 1; omega
theorem ix8 {p k : Nat} (hp : 1 ≤ p) (hk : 1 ≤ k) : ((7 * I p - 7) + I k) - 1 = I (7 * (p - 1) + (k - 1)) := by
  rw [ix7 hp, I1, I_sub (by omega)]; congr 1; omega
theorem ix9 {p k : Nat} (hp : 1 ≤ p) : (7 * I k + I p) - 1 = I (7 * k + (p - 1)) := by
  rw [I7, I_mul, I_add, I1, I_sub (by omega)]; congr 1; omega
theorem mf_loop {g : jS} {q x p t : Nat} {c : Nat → Nat} (hg : g 10 0 = I q) (ht : g 12 0 = I t) (hq : 31 ≤ q ∧ q ≤ 1019) (hx : x < 1100) (hp : 1 ≤ p ∧ p ≤ 7) (ht7 : t ≤ 7) (hc : ∀ k < t, g 19 (7 * (p - 1) + k) = I (c k) ∧ c k < q) : ∀ (d i n a : Nat), i + d = t → d < n → a % q = hs c x i % q → a < q → ∃ y, L_Mod_f_5 (I p) (I x) g n (I a) (I i) = some (I (hs c x t % q), y) := by
  intro d
  induction d with
  | zero =>
    intro i n a hi hn he ha
    match n, hn with
    | n + 1, _ =>
      unfold L_Mod_f_5
      rw [ht, if_pos (by rw [I_le (by omega) (by omega)]; omega)]
      have : i = t := by omega
      subst this
      exact ⟨I i, by rw [← he, Nat.mod_eq_of_lt ha]⟩
  | succ d ih =>
    intro i n a hi hn he ha
    match n, hn with
    | n + 1, hn =>
      have hk := hc i (by omega)
      have hm : x ^ i % q < q := Nat.mod_lt _ (by omega)
      have hb : c i * (x ^ i % q) < 1019 * 1019 := Nat.mul_lt_mul_of_lt_of_lt (by omega) (by omega)
      unfold L_Mod_f_5
      rw [ht, if_neg (by rw [I_le (by omega) (by omega)]; omega), ix7 hp.1, if_pos (by rw [I_jin (by omega)]; omega), mp_spec hg hq hx (by omega), Option.bind_some, hg, if_pos (by rw [I0, I_eq (by omega) (by omega)]; omega), I_cl (by omega), hk.1]
      simp only [jlet, I_mul, I1, I_add]
      rw [I_rem (by omega) (by omega)]
      refine ih (i + 1) n ((a + c i * (x ^ i % q)) % q) (by omega) (by omega) ?_ (Nat.mod_lt _ (by omega))
      exact (Cg.md _ _).tr (Cg.ad he (Cg.rf.ml (Cg.md _ _)))
theorem mb_loop {g : jS} {q x p t : Nat} {c : Nat → Nat} (hg : g 10 0 = I q) (ht : g 12 0 = I t) (hq : 31 ≤ q ∧ q ≤ 1019) (hx : x < 1100) (hp : 1 ≤ p ∧ p ≤ 7) (ht7 : t ≤ 7) (hc : ∀ k < t, g 20 (7 * (p - 1) + k) = I (c k) ∧ c k < q) : ∀ (d i n a : Nat), i + d = t → d < n → a % q = hs c x i % q → a < q → ∃ y, L_Mod_blind_5 (I p) (I x) g n (I a) (I i) = some (I (hs c x t % q), y) := by
  intro d
  induction d with
  | zero =>
    intro i n a hi hn he ha
    match n, hn with
    | n + 1, _ =>
      unfold L_Mod_blind_5
      rw [ht, if_pos (by rw [I_le (by omega) (by omega)]; omega)]
      have : i = t := by omega
      subst this
      exact ⟨I i, by rw [← he, Nat.mod_eq_of_lt ha]⟩
  | succ d ih =>
    intro i n a hi hn he ha
    match n, hn with
    | n + 1, hn =>
      have hk := hc i (by omega)
      have hm : x ^ i % q < q := Nat.mod_lt _ (by omega)
      have hb : c i * (x ^ i % q) < 1019 * 1019 := Nat.mul_lt_mul_of_lt_of_lt (by omega) (by omega)
      unfold L_Mod_blind_5
      rw [ht, if_neg (by rw [I_le (by omega) (by omega)]; omega), ix7 hp.1, if_pos (by rw [I_jin (by omega)]; omega), mp_spec hg hq hx (by omega), Option.bind_some, hg, if_pos (by rw [I0, I_eq (by omega) (by omega)]; omega), I_cl (by omega), hk.1]
      simp only [jlet, I_mul, I1, I_add]
      rw [I_rem (by omega) (by omega)]
      refine ih (i + 1) n ((a + c i * (x ^ i % q)) % q) (by omega) (by omega) ?_ (Nat.mod_lt _ (by omega))
      exact (Cg.md _ _).tr (Cg.ad he (Cg.rf.ml (Cg.md _ _)))
theorem mt_loop {g : jS} {q x p t : Nat} {c : Nat → Nat} (hg : g 10 0 = I q) (ht : g 12 0 = I t) (hq : 31 ≤ q ∧ q ≤ 1019) (hx : x < 1100) (hp : 1 ≤ p ∧ p ≤ 7) (ht7 : t ≤ 7) (hc : ∀ k < t, g 34 (7 * (p - 1) + k) = I (c k) ∧ c k < q) : ∀ (d i n a : Nat), i + d = t → d < n → a % q = hs c x i % q → a < q → ∃ y, L_Mod_fits_6 (I p) (I x) g n (I a) (I i) = some (I (hs c x t % q), y) := by
  intro d
  induction d with
  | zero =>
    intro i n a hi hn he ha
    match n, hn with
    | n + 1, _ =>
      unfold L_Mod_fits_6
      rw [ht, if_pos (by rw [I_le (by omega) (by omega)]; omega)]
      have : i = t := by omega
      subst this
      exact ⟨I i, by rw [← he, Nat.mod_eq_of_lt ha]⟩
  | succ d ih =>
    intro i n a hi hn he ha
    match n, hn with
    | n + 1, hn =>
      have hk := hc i (by omega)
      have hm : x ^ i % q < q := Nat.mod_lt _ (by omega)
      have hb : c i * (x ^ i % q) < 1019 * 1019 := Nat.mul_lt_mul_of_lt_of_lt (by omega) (by omega)
      unfold L_Mod_fits_6
      rw [ht, if_neg (by rw [I_le (by omega) (by omega)]; omega), ix7 hp.1, if_pos (by rw [I_jin (by omega)]; omega), mp_spec hg hq hx (by omega), Option.bind_some, hg, if_pos (by rw [I0, I_eq (by omega) (by omega)]; omega), I_cl (by omega), hk.1]
      simp only [jlet, I_mul, I1, I_add]
      rw [I_rem (by omega) (by omega)]
      refine ih (i + 1) n ((a + c i * (x ^ i % q)) % q) (by omega) (by omega) ?_ (Nat.mod_lt _ (by omega))
      exact (Cg.md _ _).tr (Cg.ad he (Cg.rf.ml (Cg.md _ _)))
theorem ma_loop {g : jS} {q x p t : Nat} {c : Nat → Nat} (hg : g 10 0 = I q) (ht : g 12 0 = I t) (hq : 31 ≤ q ∧ q ≤ 1019) (hx : x < 1100) (hp : 1 ≤ p ∧ p ≤ 7) (ht7 : t ≤ 7) (hc : ∀ k < t, g 35 (7 * (p - 1) + k) = I (c k) ∧ c k < q) : ∀ (d i n a : Nat), i + d = t → d < n → a % q = hs c x i % q → a < q → ∃ y, L_Mod_accuse_80 (I x) (I p) g n (I a) (I i) = some (I (hs c x t % q), y) := by
  intro d
  induction d with
  | zero =>
    intro i n a hi hn he ha
    match n, hn with
    | n + 1, _ =>
      unfold L_Mod_accuse_80
      rw [ht, if_pos (by rw [I_le (by omega) (by omega)]; omega)]
      have : i = t := by omega
      subst this
      exact ⟨I i, by rw [← he, Nat.mod_eq_of_lt ha]⟩
  | succ d ih =>
    intro i n a hi hn he ha
    match n, hn with
    | n + 1, hn =>
      have hk := hc i (by omega)
      have hm : x ^ i % q < q := Nat.mod_lt _ (by omega)
      have hb : c i * (x ^ i % q) < 1019 * 1019 := Nat.mul_lt_mul_of_lt_of_lt (by omega) (by omega)
      unfold L_Mod_accuse_80
      rw [ht, if_neg (by rw [I_le (by omega) (by omega)]; omega), ix7 hp.1, if_pos (by rw [I_jin (by omega)]; omega), mp_spec hg hq hx (by omega), Option.bind_some, hg, if_pos (by rw [I0, I_eq (by omega) (by omega)]; omega), I_cl (by omega), hk.1]
      simp only [jlet, I_mul, I1, I_add]
      rw [I_rem (by omega) (by omega)]
      refine ih (i + 1) n ((a + c i * (x ^ i % q)) % q) (by omega) (by omega) ?_ (Nat.mod_lt _ (by omega))
      exact (Cg.md _ _).tr (Cg.ad he (Cg.rf.ml (Cg.md _ _)))
theorem mf_spec {g : jS} {q x p t : Nat} {c : Nat → Nat} (hg : g 10 0 = I q) (ht : g 12 0 = I t) (hq : 31 ≤ q ∧ q ≤ 1019) (hx : x < 1100) (hp : 1 ≤ p ∧ p ≤ 7) (ht7 : t ≤ 7) (hc : ∀ k < t, g 19 (7 * (p - 1) + k) = I (c k) ∧ c k < q) : f_Mod_f (I p) (I x) g = some (I (hs c x t % q)) := by
  obtain ⟨y, h⟩ := mf_loop hg ht hq hx hp ht7 hc t 0 jF 0 (by omega) (by unfold jF; omega) rfl (by omega)
  unfold f_Mod_f
  rw [I0, h]; rfl
theorem mb_spec {g : jS} {q x p t : Nat} {c : Nat → Nat} (hg : g 10 0 = I q) (ht : g 12 0 = I t) (hq : 31 ≤ q ∧ q ≤ 1019) (hx : x < 1100) (hp : 1 ≤ p ∧ p ≤ 7) (ht7 : t ≤ 7) (hc : ∀ k < t, g 20 (7 * (p - 1) + k) = I (c k) ∧ c k < q) : f_Mod_blind (I p) (I x) g = some (I (hs c x t % q)) := by
  obtain ⟨y, h⟩ := mb_loop hg ht hq hx hp ht7 hc t 0 jF 0 (by omega) (by unfold jF; omega) rfl (by omega)
  unfold f_Mod_blind
  rw [I0, h]; rfl
theorem mfits_spec {g : jS} {γ x p t u v : Nat} {c : Nat → Nat} (hγ : γ < 2) (h9 : g 9 0 = I γ) (h8 : g 8 γ = I (hh γ)) (hg : g 10 0 = I (qg γ)) (ht : g 12 0 = I t) (hx : x < 1100) (hp : 1 ≤ p ∧ p ≤ 7) (ht7 : t ≤ 7) (hc : ∀ k < t, g 34 (7 * (p - 1) + k) = I (c k) ∧ c k < qg γ) (hu : u < 1100) (hv : v < 1100) : f_Mod_fits (I p) (I x) (I u) (I v) g = some (if (u + hh γ * v) % qg γ = hs c x t % qg γ then 1 else 0) := by
  have hq := qg_b γ
  have hb := hh_b γ
  have hbv : hh γ * v < 1019 * 1100 := Nat.mul_lt_mul_of_lt_of_lt (by omega) hv
  have h1 : (u + hh γ * v) % qg γ < qg γ := Nat.mod_lt _ (by omega)
  have h2 : hs c x t % qg γ < qg γ := Nat.mod_lt _ (by omega)
  obtain ⟨y, h⟩ := mt_loop hg ht hq hx hp ht7 hc t 0 jF 0 (by omega) (by unfold jF; omega) rfl (by omega)
  unfold f_Mod_fits
  rw [show L_Mod_fits_6 (I p) (I x) g jF 0 0 = _ from h]
  simp only [Option.bind_some, h9, hg, I_jin (show γ < 2147483648 by omega), I_cl (show γ < 2147483648 by omega), if_pos hγ, h8, I_mul, I_add]
  rw [I_rem (by omega) (by omega), if_pos (by rw [I0, I_eq (by omega) (by omega)]; omega)]
  by_cases hh : (u + hh γ * v) % qg γ = hs c x t % qg γ
  · rw [if_neg (by rw [hh]; simp), if_pos hh]; rfl
  · rw [if_pos (fun e => hh ((I_eq (by omega) (by omega)).mp e)), if_neg hh]; rfl
/-! ===== the class's ===== -/
theorem jidx_I {a N : Nat} (h : a < N) (hN : N < 2147483648) : jidx (I a) N = some a := by
  unfold jidx; rw [if_pos (by rw [I_jin (by omega)]; omega), I_cl (by omega)]
theorem jidx_P {p : Nat} (h : 1 ≤ p ∧ p ≤ 7) : jidx (I p - 1) 7 = some (p - 1) := by
  rw [I1, I_sub (by omega), jidx_I (by omega) (by omega)]
theorem fnum_q {γ : Nat} (hγ : γ < 2) : fnum (I (1 + γ)) = 1 + γ := by
  match γ, hγ with | 0, _ => rfl | 1, _ => rfl
theorem gnum_q {γ : Nat} (hγ : γ < 2) : gnum (I γ) = γ := by
  match γ, hγ with | 0, _ => rfl | 1, _ => rfl
theorem cdealt_spec {s : jU} {γ x p t w : Nat} {c : Nat → Nat} (hγ : γ < 2) (h53 : s 53 0 0 = I (1 + γ)) (ht : s 21 0 0 = I t) (hx : x < 1100) (hp : 1 ≤ p ∧ p ≤ 7) (ht1 : 1 ≤ t) (ht7 : t ≤ 7) (hw : w < 2) (hc : ∀ k < t, s w (p - 1) k = I (c k) ∧ c k < qg γ) : f_Room_dealtNumber (I p) (I x) (I w) s = some (I (hs c x t % qg γ)) := by
  unfold f_Room_dealtNumber
  rw [jidx_P hp, Option.bind_some, jidx_I hw (by omega), Option.bind_some, if_pos (by decide), h53, fnum_q hγ, ht, Nat.zero_add, show (0 : Int32).toNatClampNeg = 0 from rfl, (hc 0 (by omega)).1]
  match t, ht1, ht7 with
  | t + 1, _, ht7 =>
    rw [F_pat hγ hx (by omega) (by omega) (hc 0 (by omega)).2 (c := fun k => c (k + 1)) (fun k hk => hc (k + 1) (by omega)), Option.bind_some, hs_succ]
theorem cfits_spec {s : jU} {γ x p t u v : Nat} {c : Nat → Nat} (hγ : γ < 2) (h50 : s 50 0 0 = I γ) (ht : s 21 0 0 = I t) (hx : x < 1000) (hp : 1 ≤ p ∧ p ≤ 7) (ht7 : t ≤ 7) (hc : ∀ k < t, s 3 (p - 1) k = el γ (c k) ∧ c k < qg γ) (hu : u < 1024) (hv : v < 1024) : f_Room_fits (I p) (I x) (I u) (I v) s = some (if (u + hh γ * v) % qg γ = hs c x t % qg γ then 1 else 0) := by
  have hq := qg_b γ
  have h1 : (u + hh γ * v) % qg γ < qg γ := Nat.mod_lt _ (by omega)
  have h2 : hs c x t % qg γ < qg γ := Nat.mod_lt _ (by omega)
  unfold f_Room_fits
  rw [jidx_P hp, Option.bind_some, h50, gnum_q hγ, ht, el_pie hγ (by omega) (by omega) (by omega) hc, Option.bind_some, el_commit hγ hu hv, Option.bind_some]
  by_cases h : (u + hh γ * v) % qg γ = hs c x t % qg γ
  · rw [if_neg (by rw [h]; simp), if_pos h]; rfl
  · rw [if_pos (fun e => h (el_inj hγ h1 h2 e)), if_neg h]; rfl

abbrev xA : String := "java/lang/IllegalArgumentException"
abbrev xS : String := "java/lang/IllegalStateException"
abbrev xB : String := "java/lang/IndexOutOfBoundsException"
/-! ===== the relation between the two stores ===== -/
def qf (f : Nat) : Nat := if f = 0 then 256 else if f = 1 then 1019 else 31
/-- the points -/
def RelP (s : jU) (g : jS) : Prop := ∃ f c : Nat, f < 3 ∧ c ≤ 12 ∧ s 51 0 0 = I f ∧ g 1 0 = I f ∧ s 33 0 0 = I c ∧ g 2 0 = I c ∧ (∀ j < c, g 3 j = s 30 0 j ∧ g 4 j = s 31 0 j ∧ OK (qf f) (s 30 0 j) ∧ OK (qf f) (s 31 0 j) ∧ 1 ≤ U (s 30 0 j)) ∧ (∀ i j, i < j → j < c → s 30 0 i ≠ s 30 0 j)
/-- the reference's tables -/
def RelT (g : jS) : Prop := (∀ e < 1019, g 6 e = I (4 ^ e % 2039)) ∧ (∀ e < 31, g 7 e = I (crv e)) ∧ (∀ γ < 2, g 8 γ = I (hh γ)) ∧ (∀ j < 32, g 42 j = jTabK j ∧ g 43 j = jTabK (32 + j)) ∧ (∀ j < 8, g 45 j = jTabS j)
/-- coefficients from the threshold on are 0 -/
def rCz (s : jU) (t : Nat) : Prop := ∀ i < 7, ∀ k, t ≤ k → k < 7 → s 0 i k = I 0
/-- the room's numbers -/
def rSc (s : jU) (g : jS) (st r γ n t n0 t0 : Nat) : Prop := (s 22 0 0 = I st ∧ g 15 0 = I 1 ∧ g 16 0 = I (if st = 2 then 1 else 0) ∧ g 17 0 = I (if st = 3 then 1 else 0) ∧ 1 ≤ st ∧ st ≤ 3) ∧ (s 23 0 0 = I r ∧ g 18 0 = I r ∧ r ≤ 7) ∧ (s 50 0 0 = I γ ∧ s 53 0 0 = I (1 + γ) ∧ g 9 0 = I γ ∧ g 10 0 = I (qg γ) ∧ γ < 2) ∧ (s 20 0 0 = I n ∧ g 11 0 = I n ∧ s 21 0 0 = I t ∧ g 12 0 = I t ∧ 1 ≤ t ∧ t ≤ n ∧ n ≤ 7) ∧ (g 13 0 = I n0 ∧ g 14 0 = I t0 ∧ n0 ≤ 7 ∧ t0 ≤ 7 ∧ rCz s t)
def rCo (s : jU) (g : jS) (γ : Nat) : Prop := ∀ i < 7, ∀ k < 7, (g 19 (7 * i + k) = s 0 i k ∧ OK (qg γ) (s 0 i k)) ∧ (g 20 (7 * i + k) = s 1 i k ∧ OK (qg γ) (s 1 i k))
def rFa (s : jU) (g : jS) : Prop := ∀ i < 7, ∀ k < 7, OK 8 (s 2 i k) ∧ ((k = 1 ∨ k = 2) → g 21 (7 * k + i) = s 2 i k ∧ s 2 i k ≠ I (i + 1)) ∧ (¬ (k = 1 ∨ k = 2) → g 21 (7 * k + i) = if s 2 i k = I 0 then I 0 else I 1)
def rCr (s : jU) (g : jS) : Prop := ∀ i < 7, g 22 i = s 10 i 0 ∧ OK 9 (s 10 i 0)
/-- what was shown of coefficients: commitments (3, 34, mask 23), extractions (4, 35, mask 24) -/
def rEl (s : jU) (g : jS) (K Kg Kf γ t0 m : Nat) : Prop := m < 128 ∧ (∀ i < 7, s Kf i 0 = I (if bt m (i + 1) then 1 else 0)) ∧ ∀ i < 7, ∀ k < 7, (bt m (i + 1) = true → k < t0 → s K i k = el γ (U (g Kg (7 * i + k))) ∧ OK (qg γ) (g Kg (7 * i + k))) ∧ (¬ (bt m (i + 1) = true ∧ k < t0) → s K i k = -1)
def rNu (s : jU) (g : jS) (K Kg γ n0 m : Nat) : Prop := ∀ i < 7, ∀ j < 7, (bt m (i + 1) = true → j < n0 → g Kg (7 * i + j) = s K j (i + 1) ∧ OK (qg γ) (s K j (i + 1))) ∧ (¬ (bt m (i + 1) = true ∧ j < n0) → s K j (i + 1) = -1)
def rCm (s : jU) (g : jS) (γ : Nat) : Prop := ∀ i < 7, (g 28 i = s 11 i 0 ∧ OK 128 (s 11 i 0) ∧ OK 128 (g 29 i)) ∧ ∀ c < 7, (bt (U (g 29 i)) (c + 1) = true → (g 32 (7 * i + c) = s 7 i (c + 1) ∧ OK (qg γ) (s 7 i (c + 1))) ∧ (g 33 (7 * i + c) = s 8 i (c + 1) ∧ OK (qg γ) (s 8 i (c + 1)))) ∧ (¬ bt (U (g 29 i)) (c + 1) = true → s 7 i (c + 1) = -1)
def rSh (s : jU) (g : jS) (st r γ n : Nat) : Prop := ∀ i < n, (4 ≤ r ∧ ¬ (st = 3 ∧ r = 4) → (g 36 i = s 9 i 0 ∧ OK (qg γ) (s 9 i 0)) ∧ (g 37 i = s 9 i 1 ∧ OK (qg γ) (s 9 i 1))) ∧ (¬ (4 ≤ r ∧ ¬ (st = 3 ∧ r = 4)) → s 9 i 0 = -1 ∧ s 9 i 1 = -1)
def rMa (s : jU) (g : jS) (r : Nat) : Prop := (g 25 0 = s 24 0 0 ∧ OK 128 (s 24 0 0) ∧ (r < 4 → s 24 0 0 = I 0)) ∧ (g 26 0 = s 25 0 0 ∧ OK 128 (s 25 0 0) ∧ (r < 6 → s 25 0 0 = I 0)) ∧ (g 27 0 = s 26 0 0 ∧ OK 128 (s 26 0 0) ∧ (r < 7 → s 26 0 0 = I 0))
def rKe (s : jU) (g : jS) (st γ : Nat) : Prop := (st = 2 → s 27 0 0 = el γ (U (g 39 0)) ∧ OK (qg γ) (g 39 0)) ∧ (st = 1 → s 27 0 0 = el γ 0)
def rBo (s : jU) (g : jS) (b : Nat) : Prop := s 41 0 0 = I b ∧ g 40 0 = I b ∧ b ≤ 1050 ∧ ∀ j < b, g 41 j = s 40 0 j &&& 255
/-- what holds between the rounds -/
def ctot (s : jU) : Nat := popc (U (s 11 0 0)) + popc (U (s 11 1 0)) + popc (U (s 11 2 0)) + popc (U (s 11 3 0)) + popc (U (s 11 4 0)) + popc (U (s 11 5 0)) + popc (U (s 11 6 0))
def rRo (s : jU) (g : jS) (st r γ n t n0 t0 dm em b : Nat) : Prop := (st = 1 → r ≤ 6 ∧ n0 = n ∧ t0 = t) ∧ (st = 2 → r = 7) ∧ (st = 3 → r = 4 ∨ r = 7) ∧
  (st = 1 → (r = 0 → dm = 0 ∧ b = 0) ∧ (r < 5 → em = 0) ∧ (r < 2 → ∀ i < 7, s 11 i 0 = I 0) ∧ (r < 3 → ∀ i < 7, g 29 i = I 0) ∧
    (∀ i < 7, U (s 11 i 0) < 2 ^ n ∧ (bt dm (i + 1) = false → s 11 i 0 = I 0)) ∧ (∀ i < 7, ∀ c < 7, bt (U (g 29 i)) (c + 1) = true → bt (U (s 11 i 0)) (c + 1) = true) ∧
    (r = 1 → b ≤ 112 ∧ ∀ i < 7, bt dm (i + 1) = true → ∀ j < n, s 2 i 1 ≠ I (j + 1) → (U (s 5 j (i + 1)) + hh γ * U (s 6 j (i + 1))) % qg γ = hs (fun k => U (g 34 (7 * i + k))) (j + 1) t % qg γ) ∧
    (r = 2 → ctot s ≤ 14 ∧ b ≤ 112 + 3 * ctot s) ∧ ((r = 3 ∨ r = 4) → b ≤ 252) ∧ (r = 5 → b ≤ 364) ∧ (r = 6 → b ≤ 707) ∧
    (4 ≤ r → ∀ i < 7, bt (U (s 24 0 0)) (i + 1) = true → bt dm (i + 1) = true))
def RelR (s : jU) (g : jS) (st r γ n t n0 t0 dm em b : Nat) : Prop := rSc s g st r γ n t n0 t0 ∧ rCo s g γ ∧ rFa s g ∧ rCr s g ∧ (g 23 0 = I dm ∧ rEl s g 3 34 12 γ t0 dm ∧ rNu s g 5 30 γ n0 dm ∧ rNu s g 6 31 γ n0 dm) ∧ (g 24 0 = I em ∧ rEl s g 4 35 13 γ t0 em) ∧ rCm s g γ ∧ rSh s g st r γ n ∧ rMa s g r ∧ rKe s g st γ ∧ rBo s g b ∧ rRo s g st r γ n t n0 t0 dm em b
/-- no room yet -/
def Rel0 (s : jU) (g : jS) : Prop := s 22 0 0 = I 0 ∧ s 20 0 0 = I 0 ∧ s 23 0 0 = I 0 ∧ g 15 0 = I 0 ∧ g 16 0 = I 0 ∧ g 17 0 = I 0 ∧ g 18 0 = I 0 ∧ rBo s g 0
def Rel (s : jU) (g : jS) : Prop := RelP s g ∧ RelT g ∧ (Rel0 s g ∨ ∃ st r γ n t n0 t0 dm em b, RelR s g st r γ n t n0 t0 dm em b)
theorem Rel_0 {s : jU} {g : jS} (x : Nat → Int32) (h : Rel s g) : Rel s (va_up g 0 x) := h
/-! ===== state ===== -/
theorem fa_state {s : jU} {g : jS} (h : Rel s g) : FaQ Rel s (f_SR_state s) (f_Mod_state g) := by
  obtain ⟨hP, hT, hR⟩ := id h
  refine ⟨s 22 0 0, va_up g 0 (fun _ => 0), rfl, ?_, Rel_0 _ h⟩
  unfold f_Mod_state jlet
  rcases hR with hR | ⟨st, r, γ, n, t, n0, t0, dm, em, b, hS, -⟩
  · have e15 : va_up g 0 (fun _ => (0 : Int32)) 15 0 = I 0 := hR.2.2.2.1
    simp only [e15]
    rw [hR.1]; rfl
  · obtain ⟨⟨h22, h15, h16, h17, h1, h3⟩, -⟩ := hS
    have e15 : va_up g 0 (fun _ => (0 : Int32)) 15 0 = I 1 := h15
    have e16 : va_up g 0 (fun _ => (0 : Int32)) 16 0 = _ := h16
    have e17 : va_up g 0 (fun _ => (0 : Int32)) 17 0 = _ := h17
    simp only [e15, e16, e17, h22]
    match st, h1, h3 with | 1, _, _ => rfl | 2, _, _ => rfl | 3, _, _ => rfl
theorem fa_board {s : jU} {g : jS} (h : Rel s g) : FaQ Rel s (f_SR_board s) (f_Mod_board g) := by
  obtain ⟨hP, hT, hR⟩ := id h
  refine ⟨s 41 0 0, va_up g 0 (fun _ => 0), rfl, ?_, Rel_0 _ h⟩
  have e : ∃ b, rBo s g b := by
    rcases hR with hR | ⟨st, r, γ, n, t, n0, t0, dm, em, b, -, -, -, -, -, -, -, -, -, -, hB, -⟩
    · exact ⟨_, hR.2.2.2.2.2.2.2⟩
    · exact ⟨_, hB⟩
  obtain ⟨b, hb⟩ := e
  show some (g 40 0, va_up g 0 (fun _ => 0)) = _
  rw [hb.1, hb.2.1]

theorem I_cases (x : Int32) : x < 0 ∨ ∃ a, x = I a ∧ a < 2147483648 := by
  by_cases h : x < 0
  · exact Or.inl h
  · refine Or.inr ⟨x.toInt.toNat, ?_⟩
    apply I_eta
    rw [Int32.le_iff_toInt_le]; rw [Int32.lt_iff_toInt_lt] at h; omega
theorem ng_lt {x : Int32} {n : Nat} (h : x < 0) (hn : n < 2147483648) : x < I n := by
  rw [Int32.lt_iff_toInt_lt] at *; rw [I_toInt hn]; rw [show (0 : Int32).toInt = 0 from rfl] at h; omega
theorem ng_le {x : Int32} {n : Nat} (h : x < 0) (hn : n < 2147483648) : x ≤ I n := by
  rw [Int32.le_iff_toInt_le]; rw [Int32.lt_iff_toInt_lt] at *; rw [I_toInt hn]; rw [show (0 : Int32).toInt = 0 from rfl] at h; omega
theorem ng_nlt {x : Int32} {n : Nat} (h : x < 0) (hn : n < 2147483648) : ¬ I n < x := by
  rw [Int32.lt_iff_toInt_lt] at *; rw [I_toInt hn]; rw [show (0 : Int32).toInt = 0 from rfl] at h; omega
theorem ng_nle {x : Int32} {n : Nat} (h : x < 0) (hn : n < 2147483648) : ¬ I n ≤ x := by
  rw [Int32.le_iff_toInt_le]; rw [Int32.lt_iff_toInt_lt] at *; rw [I_toInt hn]; rw [show (0 : Int32).toInt = 0 from rfl] at h; omega
theorem ng_ne {x : Int32} {n : Nat} (h : x < 0) (hn : n < 2147483648) : x ≠ I n := by
  intro e; subst e; rw [I0, I_lt hn (by decide)] at h; omega
/-- a party's number, coefficient's, which -/
def Np (s : jU) (g : jS) (n : Nat) : Prop := s 20 0 0 = I n ∧ n ≤ 7 ∧ ((g 15 0 = I 0 ∧ n = 0) ∨ (g 15 0 = I 1 ∧ g 11 0 = I n))
theorem Np_of {s : jU} {g : jS} (h : Rel s g) : ∃ n, Np s g n := by
  rcases h.2.2 with hR | ⟨st, r, γ, n, t, n0, t0, dm, em, b, hS, -⟩
  · exact ⟨0, hR.2.1, by omega, Or.inl ⟨hR.2.2.2.1, rfl⟩⟩
  · obtain ⟨⟨-, h15, -⟩, -, -, ⟨h20, h11, -, -, -, -, h7⟩, -⟩ := hS
    exact ⟨n, h20, h7, Or.inr ⟨h15, h11⟩⟩
theorem party_or {s : jU} {g : jS} {n : Nat} (h : Np s g n) (x : Int32) : (∃ p, x = I p ∧ 1 ≤ p ∧ p ≤ n ∧ f_SR_needParty x s = some (.inr ()) ∧ f_Mod_isParty x g = some (I 1)) ∨ (f_SR_needParty x s = some (.inl xA) ∧ f_Mod_isParty x g = some (I 0)) := by
  obtain ⟨h20, h7, h15⟩ := h
  unfold f_SR_needParty f_Room_hasParty f_Mod_isParty
  rw [h20]
  rcases I_cases x with hx | ⟨a, rfl, ha⟩
  · right
    rw [if_pos (show x < 1 from ng_lt (n := 1) hx (by decide))]
    refine ⟨rfl, ?_⟩
    rcases h15 with ⟨h15, -⟩ | ⟨h15, h11⟩
    · rw [h15]; rfl
    · rw [h15, if_neg (by decide), if_pos (show x < 1 from ng_lt (n := 1) hx (by decide))]; rfl
  · by_cases h1 : 1 ≤ a ∧ a ≤ n
    · left
      refine ⟨a, rfl, h1.1, h1.2, ?_, ?_⟩
      · rw [if_neg (by rw [I1, I_lt (by omega) (by omega)]; omega), if_neg (by rw [I_lt (by omega) (by omega)]; omega)]; rfl
      · rcases h15 with ⟨h15, h0⟩ | ⟨h15, h11⟩
        · omega
        · rw [h15, h11, if_neg (by decide), if_neg (by rw [I1, I_lt (by omega) (by omega)]; omega), if_neg (by rw [I_lt (by omega) (by omega)]; omega)]; rfl
    · right
      by_cases h2 : a < 1
      · rw [if_pos (by rw [I1, I_lt (by omega) (by omega)]; omega)]
        refine ⟨rfl, ?_⟩
        rcases h15 with ⟨h15, -⟩ | ⟨h15, h11⟩
        · rw [h15]; rfl
        · rw [h15, if_neg (by decide), if_pos (by rw [I1, I_lt (by omega) (by omega)]; omega)]; rfl
      · rw [if_neg (by rw [I1, I_lt (by omega) (by omega)]; omega), if_pos (by rw [I_lt (by omega) (by omega)]; omega)]
        refine ⟨rfl, ?_⟩
        rcases h15 with ⟨h15, h0⟩ | ⟨h15, h11⟩
        · rw [h15]; rfl
        · rw [h15, h11, if_neg (by decide), if_neg (by rw [I1, I_lt (by omega) (by omega)]; omega), if_pos (by rw [I_lt (by omega) (by omega)]; omega)]; rfl
theorem coef_or {s : jU} {t : Nat} (h21 : s 21 0 0 = I t) (ht : t ≤ 7) (x : Int32) : (∃ k, x = I k ∧ k < t ∧ ¬ x < 0 ∧ ¬ I t ≤ x ∧ f_SR_needCoefficient x s = some (.inr ())) ∨ ((x < 0 ∨ ¬ x < 0 ∧ I t ≤ x) ∧ f_SR_needCoefficient x s = some (.inl xA)) := by
  unfold f_SR_needCoefficient f_Room_hasCoefficient
  rw [h21]
  rcases I_cases x with hx | ⟨a, rfl, ha⟩
  · right
    rw [if_pos hx]
    exact ⟨Or.inl hx, rfl⟩
  · have h0 : ¬ I a < 0 := by rw [I0, I_lt (by omega) (by omega)]; omega
    by_cases h1 : a < t
    · left
      have h2 : ¬ I t ≤ I a := by rw [I_le (by omega) (by omega)]; omega
      refine ⟨a, rfl, h1, h0, h2, ?_⟩
      rw [if_neg h0, if_neg h2]; rfl
    · right
      have h2 : I t ≤ I a := by rw [I_le (by omega) (by omega)]; omega
      refine ⟨Or.inr ⟨h0, h2⟩, ?_⟩
      rw [if_neg h0, if_pos h2]; rfl
theorem which_or (x : Int32) : (∃ w, x = I w ∧ w < 2 ∧ ¬ x < 0 ∧ x ≤ 1 ∧ f_SR_needWhich x = some (.inr ())) ∨ ((x < 0 ∨ ¬ x < 0 ∧ ¬ x ≤ 1) ∧ f_SR_needWhich x = some (.inl xA)) := by
  unfold f_SR_needWhich
  rcases I_cases x with hx | ⟨a, rfl, ha⟩
  · right
    rw [if_neg (show x ≠ 0 from ng_ne (n := 0) hx (by decide)), if_neg (show x ≠ 1 from ng_ne (n := 1) hx (by decide))]
    exact ⟨Or.inl hx, rfl⟩
  · have h0 : ¬ I a < 0 := by rw [I0, I_lt (by omega) (by omega)]; omega
    by_cases h1 : a < 2
    · left
      refine ⟨a, rfl, h1, h0, by rw [I1, I_le (by omega) (by omega)]; omega, ?_⟩
      match a, h1 with | 0, _ => rfl | 1, _ => rfl
    · right
      refine ⟨Or.inr ⟨h0, by rw [I1, I_le (by omega) (by omega)]; omega⟩, ?_⟩
      rw [if_neg (by rw [I0, I_eq (by omega) (by omega)]; omega), if_neg (by rw [I1, I_eq (by omega) (by omega)]; omega)]
/-! ===== getters ===== -/
theorem mask_m {n : Nat} {g : jS} (h : g 11 0 = I n) (hn : n ≤ 7) : f_Mod_mask g = some (I (2 ^ n - 1)) := by
  unfold f_Mod_mask; rw [h, B_mask n (by omega)]
theorem mask_c {n : Nat} {s : jU} (h : s 20 0 0 = I n) (hn : n ≤ 7) : f_Room_everybody s = some (I (2 ^ n - 1)) := by
  unfold f_Room_everybody; rw [h, B_mask n (by omega)]
theorem fa_complaints {s : jU} {g : jS} (h : Rel s g) (x : Int32) : FaP Rel [(xA, 1)] s (f_SR_complaints x s) (f_Mod_complaints x g) := by
  obtain ⟨n, hn⟩ := Np_of h
  unfold FaP f_SR_complaints f_Mod_complaints
  rcases party_or hn x with ⟨p, rfl, h1, h2, hc, hm⟩ | ⟨hc, hm⟩
  · left
    rw [hc, hm]
    obtain ⟨h20, h7, ⟨-, h0⟩ | ⟨-, h11⟩⟩ := hn
    · omega
    rcases h.2.2 with hR | ⟨st, r, γ, n', t, n0, t0, dm, em, b, hS, -, -, -, -, -, hC, -⟩
    · have := hR.2.1; rw [h20, I_eq (by omega) (by omega)] at this; omega
    have h28 := (hC (p - 1) (by omega)).1.1
    refine ⟨s 11 (p - 1) 0 &&& I (2 ^ n - 1), va_up g 0 (fun _ => 0), ?_, ?_, rfl, Rel_0 _ h⟩
    · simp only [jtry, f_Room_complaintBits, jidx_P (show 1 ≤ p ∧ p ≤ 7 by omega), Option.bind_some, mask_c h20 h7]
    · have e11 : ∀ a, f_Mod_mask (va_up g 0 a) = some (I (2 ^ n - 1)) := fun a => mask_m (g := va_up g 0 a) h11 h7
      have e0 : ∀ a, va_up g 0 a 0 = a := fun a => rfl
      have e28 : ∀ a, va_up g 0 a 28 = g 28 := fun a => rfl
      simp only [Option.bind_some, jlet, if_neg (show ¬ I 1 = 0 by decide), e0, e11, e28]
      rw [if_pos (show (0 : Int32) ≤ 0 by decide), I1, I_sub h1, if_pos (by rw [I_jin (by omega)]; omega), I_cl (by omega), h28]
      rfl
  · right
    rw [hc, hm]
    exact ⟨_, 1, _, _, List.mem_singleton.mpr rfl, rfl, rfl, rfl, Rel_0 _ h⟩

theorem Nr_of {s : jU} {g : jS} {n : Nat} (h : Rel s g) (hn : Np s g n) (h1 : 1 ≤ n) : ∃ st r γ t n0 t0 dm em b, RelR s g st r γ n t n0 t0 dm em b := by
  obtain ⟨h20, h7, -⟩ := hn
  rcases h.2.2 with hR | ⟨st, r, γ, n', t, n0, t0, dm, em, b, hS⟩
  · have := hR.2.1; rw [h20, I_eq (by omega) (by omega)] at this; omega
  · have e := hS.1.2.2.2.1.1
    have e7 := hS.1.2.2.2.1.2.2.2.2.2.2
    rw [h20, I_eq (by omega) (by omega)] at e
    subst e
    exact ⟨st, r, γ, t, n0, t0, dm, em, b, hS⟩
theorem min_spec {m k : Nat} (hm : m < 128) (h1 : 1 ≤ k) (hk : k < 8) : f_Mod_in (I m) (I k) = some (I (if bt m k then 1 else 0)) := by
  unfold f_Mod_in
  have := B_in m hm k hk h1
  by_cases h : bt m k = true
  · rw [if_neg (fun e => e (this.mpr h)), if_pos h]; rfl
  · rw [if_pos (fun e => h (this.mp e)), if_neg h]; rfl
theorem mel_spec {g : jS} {γ e : Nat} (hT : RelT g) (hγ : γ < 2) (h9 : g 9 0 = I γ) (he : e < qg γ) : f_Mod_element (I e) g = some (el γ e) := by
  unfold f_Mod_element
  rw [h9]
  match γ, hγ with
  | 0, _ =>
    have he : e < 1019 := he
    rw [if_neg (by decide), if_pos (by rw [I_jin (by omega)]; omega), I_cl (by omega), hT.1 e he]; rfl
  | 1, _ =>
    have he : e < 31 := he
    rw [if_pos (by decide), if_pos (by rw [I_jin (by omega)]; omega), I_cl (by omega), hT.2.1 e he]; rfl
theorem le00 : (0 : Int32) ≤ 0 := by decide
theorem OKe {q : Nat} {x : Int32} (h : OK q x) : x = I (U x) := h.1
theorem fa_received {s : jU} {g : jS} (h : Rel s g) (x y z : Int32) : FaP Rel [(xA, 1)] s (f_SR_received x y z s) (f_Mod_received x y z g) := by
  obtain ⟨n, hn⟩ := Np_of h
  unfold FaP f_SR_received f_Mod_received
  rcases party_or hn x with ⟨p, rfl, h1, h2, hc, hm⟩ | ⟨hc, hm⟩
  · rw [hc, hm]
    rcases party_or hn y with ⟨j, rfl, h3, h4, hc2, hm2⟩ | ⟨hc2, hm2⟩
    · rw [hc2, hm2]
      rcases which_or z with ⟨w, rfl, hw, hz1, hz2, hc3⟩ | ⟨hz, hc3⟩
      · left
        rw [hc3]
        obtain ⟨st, r, γ, t, n0, t0, dm, em, b, hS⟩ := Nr_of h hn (by omega)
        have h7 := hn.2.1
        refine ⟨s (5 + w) (j - 1) p, va_up g 0 (fun _ => 0), ?_, ?_, rfl, Rel_0 _ h⟩
        · simp only [jtry, f_Room_numberOf, jidx_P (show 1 ≤ j ∧ j ≤ 7 by omega), jidx_I hw (show 2 < 2147483648 by decide), Option.bind_some]
          rw [if_pos (by rw [I_jin (by omega)]; omega), I_cl (by omega)]; rfl
        · simp only [Option.bind_some, jlet, if_neg (show ¬ I 1 = 0 by decide), if_neg hz1, if_pos hz2]
          rw [if_pos (show va_up g 0 (fun _ => (0 : Int32)) 0 0 ≤ 0 from le00)]
          have hS' : RelR s (va_up g 0 (fun _ => 0)) st r γ n t n0 t0 dm em b := hS
          generalize va_up g 0 (fun _ => 0) = g' at hS' ⊢
          obtain ⟨⟨-, -, -, -, ⟨h13, -, hn0, -⟩⟩, -, -, -, ⟨h23, ⟨hdm, -⟩, hN5, hN6⟩, -⟩ := hS'
          rw [h23, min_spec hdm h1 (by omega), Option.bind_some]
          have e5 := hN5 (p - 1) (by omega) (j - 1) (by omega)
          have e6 := hN6 (p - 1) (by omega) (j - 1) (by omega)
          rw [show p - 1 + 1 = p from by omega] at e5 e6
          by_cases hb : bt dm p = true
          · rw [if_pos hb, if_neg (by decide), h13]
            by_cases hj : j ≤ n0
            · rw [if_pos (by rw [I_le (by omega) (by omega)]; exact hj)]
              simp only [f_Mod_at, Option.bind_some, ix8 h1 h3]
              have hj49 : jin (I (7 * (p - 1) + (j - 1))) 49 := by rw [I_jin (by omega)]; omega
              rw [if_pos hj49, I_cl (by omega), (e5.1 hb (by omega)).1, if_pos hj49, (e6.1 hb (by omega)).1]
              match w, hw with | 0, _ => rfl | 1, _ => rfl
            · rw [if_neg (by rw [I_le (by omega) (by omega)]; exact hj)]
              match w, hw with
              | 0, _ => rw [e5.2 (by omega)]
              | 1, _ => rw [e6.2 (by omega)]
          · rw [if_neg hb, if_pos (show I 0 = 0 from rfl)]
            match w, hw with
            | 0, _ => rw [e5.2 (fun e => hb e.1)]
            | 1, _ => rw [e6.2 (fun e => hb e.1)]
      · right
        rw [hc3]
        refine ⟨_, 1, 0, va_up g 0 (fun _ => I 1), List.mem_singleton.mpr rfl, rfl, ?_, rfl, Rel_0 _ h⟩
        rcases hz with hz | ⟨hz1, hz2⟩
        · rw [Option.bind_some, if_neg (show ¬ I 1 = 0 by decide), Option.bind_some, if_neg (show ¬ I 1 = 0 by decide), if_pos hz]; rfl
        · rw [Option.bind_some, if_neg (show ¬ I 1 = 0 by decide), Option.bind_some, if_neg (show ¬ I 1 = 0 by decide), if_neg hz1, if_neg hz2]; rfl
    · right
      rw [hc2, hm2]
      exact ⟨_, 1, _, _, List.mem_singleton.mpr rfl, rfl, rfl, rfl, Rel_0 _ h⟩
  · right
    rw [hc, hm]
    exact ⟨_, 1, _, _, List.mem_singleton.mpr rfl, rfl, rfl, rfl, Rel_0 _ h⟩
theorem fa_commitment {s : jU} {g : jS} (h : Rel s g) (x y z : Int32) : FaP Rel [(xA, 1)] s (f_SR_commitment x y z s) (f_Mod_commitment x y z g) := by
  obtain ⟨n, hn⟩ := Np_of h
  unfold FaP f_SR_commitment f_Mod_commitment
  rcases party_or hn x with ⟨p, rfl, h1, h2, hc, hm⟩ | ⟨hc, hm⟩
  · rw [hc, hm]
    obtain ⟨st, r, γ, t, n0, t0, dm, em, b, hS⟩ := Nr_of h hn (by omega)
    have h7 := hn.2.1
    obtain ⟨h20, h11, h21, h12, ht1, htn, -⟩ := hS.1.2.2.2.1
    rw [h12]
    rcases coef_or h21 (by omega) y with ⟨k, rfl, hk, hy1, hy2, hc2⟩ | ⟨hy, hc2⟩
    · rw [hc2]
      rcases which_or z with ⟨w, rfl, hw, hz1, hz2, hc3⟩ | ⟨hz, hc3⟩
      · left
        rw [hc3]
        refine ⟨s (3 + w) (p - 1) k, va_up g 0 (fun _ => 0), ?_, ?_, rfl, Rel_0 _ h⟩
        · simp only [jtry, f_Room_elementOf, jidx_P (show 1 ≤ p ∧ p ≤ 7 by omega), jidx_I hw (show 2 < 2147483648 by decide), Option.bind_some]
          rw [if_pos (by rw [I_jin (by omega)]; omega), I_cl (by omega)]; rfl
        · simp only [Option.bind_some, jlet, if_neg (show ¬ I 1 = 0 by decide), if_neg hz1, if_pos hz2, if_neg hy1, if_neg hy2]
          rw [if_pos (show va_up g 0 (fun _ => (0 : Int32)) 0 0 ≤ 0 from le00)]
          have hS' : RelR s (va_up g 0 (fun _ => 0)) st r γ n t n0 t0 dm em b := hS
          have hT' : RelT (va_up g 0 (fun _ => 0)) := h.2.1
          generalize va_up g 0 (fun _ => 0) = g' at hS' hT' ⊢
          obtain ⟨⟨-, -, ⟨-, -, h9, -, hγ⟩, -, ⟨-, h14, hn0, ht0, -⟩⟩, -, -, -, ⟨h23, ⟨hdm, -, hE3⟩, -, -⟩, ⟨h24, ⟨hem, -, hE4⟩⟩, -⟩ := hS'
          have e3 := hE3 (p - 1) (by omega) k (by omega)
          have e4 := hE4 (p - 1) (by omega) k (by omega)
          rw [show p - 1 + 1 = p from by omega] at e3 e4
          rw [h23, h24, h14]
          match w, hw with
          | 0, _ =>
            rw [if_neg (by decide), Option.bind_some, min_spec hdm h1 (by omega), Option.bind_some]
            by_cases hb : bt dm p = true
            · rw [if_pos hb, if_neg (by decide)]
              by_cases hj : k < t0
              · obtain ⟨ea, eb⟩ := e3.1 hb hj
                rw [if_pos (by rw [I_lt (by omega) (by omega)]; exact hj), if_neg (by decide), ix7 h1, if_pos (by rw [I_jin (by omega)]; omega), I_cl (by omega), Option.bind_some, eb.1, mel_spec hT' hγ h9 eb.2, ea]; rfl
              · rw [if_neg (by rw [I_lt (by omega) (by omega)]; exact hj), e3.2 (fun e => hj e.2)]
            · rw [if_neg hb, if_pos (show I 0 = 0 from rfl), e3.2 (fun e => hb e.1)]
          | 1, _ =>
            rw [if_pos (by decide), Option.bind_some, min_spec hem h1 (by omega), Option.bind_some]
            by_cases hb : bt em p = true
            · rw [if_pos hb, if_neg (by decide)]
              by_cases hj : k < t0
              · obtain ⟨ea, eb⟩ := e4.1 hb hj
                rw [if_pos (by rw [I_lt (by omega) (by omega)]; exact hj), if_pos (by decide), ix7 h1, if_pos (by rw [I_jin (by omega)]; omega), I_cl (by omega), Option.bind_some, eb.1, mel_spec hT' hγ h9 eb.2, ea]; rfl
              · rw [if_neg (by rw [I_lt (by omega) (by omega)]; exact hj), e4.2 (fun e => hj e.2)]
            · rw [if_neg hb, if_pos (show I 0 = 0 from rfl), e4.2 (fun e => hb e.1)]
      · right
        rw [hc3]
        refine ⟨_, 1, 0, va_up g 0 (fun _ => I 1), List.mem_singleton.mpr rfl, rfl, ?_, rfl, Rel_0 _ h⟩
        rcases hz with hz | ⟨hz1, hz2⟩
        · rw [Option.bind_some, if_neg (show ¬ I 1 = 0 by decide), if_neg hy1, if_neg hy2, if_pos hz]; rfl
        · rw [Option.bind_some, if_neg (show ¬ I 1 = 0 by decide), if_neg hy1, if_neg hy2, if_neg hz1, if_neg hz2]; rfl
    · right
      rw [hc2]
      refine ⟨_, 1, 0, va_up g 0 (fun _ => I 1), List.mem_singleton.mpr rfl, rfl, ?_, rfl, Rel_0 _ h⟩
      rcases hy with hz | ⟨hz1, hz2⟩
      · rw [Option.bind_some, if_neg (show ¬ I 1 = 0 by decide), if_pos hz]; rfl
      · rw [Option.bind_some, if_neg (show ¬ I 1 = 0 by decide), if_neg hz1, if_pos hz2]; rfl
  · right
    rw [hc, hm]
    exact ⟨_, 1, _, _, List.mem_singleton.mpr rfl, rfl, rfl, rfl, Rel_0 _ h⟩

theorem fa_share {s : jU} {g : jS} (h : Rel s g) (x z : Int32) : FaP Rel [(xA, 1)] s (f_SR_share x z s) (f_Mod_share x z g) := by
  obtain ⟨n, hn⟩ := Np_of h
  unfold FaP f_SR_share f_Mod_share
  rcases party_or hn x with ⟨p, rfl, h1, h2, hc, hm⟩ | ⟨hc, hm⟩
  · rw [hc, hm]
    obtain ⟨st, r, γ, t, n0, t0, dm, em, b, hS⟩ := Nr_of h hn (by omega)
    have h7 := hn.2.1
    rcases which_or z with ⟨w, rfl, hw, hz1, hz2, hc3⟩ | ⟨hz, hc3⟩
    · left
      rw [hc3]
      refine ⟨s 9 (p - 1) w, va_up g 0 (fun _ => 0), ?_, ?_, rfl, Rel_0 _ h⟩
      · simp only [jtry, f_Room_shareOf, jidx_P (show 1 ≤ p ∧ p ≤ 7 by omega), Option.bind_some]
        rw [if_pos (by rw [I_jin (by omega)]; omega), I_cl (by omega)]; rfl
      · simp only [Option.bind_some, jlet, if_neg (show ¬ I 1 = 0 by decide), if_neg hz1, if_pos hz2]
        rw [if_pos (show va_up g 0 (fun _ => (0 : Int32)) 0 0 ≤ 0 from le00)]
        have hS' : RelR s (va_up g 0 (fun _ => 0)) st r γ n t n0 t0 dm em b := hS
        generalize va_up g 0 (fun _ => 0) = g' at hS' ⊢
        obtain ⟨⟨⟨-, -, -, h17, hst1, hst3⟩, ⟨-, h18, hr⟩, -⟩, -, -, -, -, -, -, hSh, -, -, -, -⟩ := hS'
        have e := hSh (p - 1) (by omega)
        rw [h18, h17]
        have hj7 : jin (I p - 1) 7 := by rw [I1, I_sub h1, I_jin (by omega)]; omega
        have hcl : (I p - 1).toNatClampNeg = p - 1 := by rw [I1, I_sub h1, I_cl (by omega)]
        have hlast : 4 ≤ r ∧ ¬ (st = 3 ∧ r = 4) → (Option.bind (if ¬ I w = 0 then if jin (I p - 1) 7 then some (g' 37 (I p - 1).toNatClampNeg) else none else if jin (I p - 1) 7 then some (g' 36 (I p - 1).toNatClampNeg) else none) fun x => some (x, g')) = some (s 9 (p - 1) w, g') := fun hv => by
          obtain ⟨⟨ea, -⟩, ⟨eb, -⟩⟩ := e.1 hv
          rw [if_pos hj7, if_pos hj7, hcl, ea, eb]
          match w, hw with | 0, _ => rfl | 1, _ => rfl
        have hno : ¬ (4 ≤ r ∧ ¬ (st = 3 ∧ r = 4)) → s 9 (p - 1) w = -1 := fun hv => by
          match w, hw with
          | 0, _ => exact (e.2 hv).1
          | 1, _ => exact (e.2 hv).2
        by_cases hr4 : r < 4
        · rw [if_pos (by rw [I4, I_lt (by omega) (by omega)]; omega), hno (by omega)]
        · rw [if_neg (by rw [I4, I_lt (by omega) (by omega)]; omega)]
          by_cases h3 : st = 3
          · rw [if_pos h3, if_neg (show ¬ I 1 = 0 by decide)]
            by_cases h4 : r = 4
            · rw [if_neg (by rw [h4]; decide), hno (by omega)]
            · rw [if_pos (by rw [I4, I_eq (by omega) (by omega)]; omega)]
              exact hlast (by omega)
          · rw [if_neg h3, if_pos (show I 0 = 0 from rfl)]
            exact hlast (by omega)
    · right
      rw [hc3]
      refine ⟨_, 1, 0, va_up g 0 (fun _ => I 1), List.mem_singleton.mpr rfl, rfl, ?_, rfl, Rel_0 _ h⟩
      rcases hz with hz | ⟨hz1, hz2⟩
      · rw [Option.bind_some, if_neg (show ¬ I 1 = 0 by decide), if_pos hz]; rfl
      · rw [Option.bind_some, if_neg (show ¬ I 1 = 0 by decide), if_neg hz1, if_neg hz2]; rfl
  · right
    rw [hc, hm]
    exact ⟨_, 1, _, _, List.mem_singleton.mpr rfl, rfl, rfl, rfl, Rel_0 _ h⟩
theorem fa_key {s : jU} {g : jS} (h : Rel s g) : FaQ Rel s (f_SR_key s) (f_Mod_key g) := by
  simp only [FaQ, f_SR_key, f_Mod_key, jlet]
  have hT' : RelT (va_up g 0 (fun _ => 0)) := h.2.1
  have hR' : Rel0 s (va_up g 0 (fun _ => 0)) ∨ ∃ st r γ n t n0 t0 dm em b, RelR s (va_up g 0 (fun _ => 0)) st r γ n t n0 t0 dm em b := h.2.2
  have h' : Rel s (va_up g 0 (fun _ => 0)) := h
  generalize va_up g 0 (fun _ => (0 : Int32)) = g' at hR' hT' h' ⊢
  rcases hR' with hR | ⟨st, r, γ, n, t, n0, t0, dm, em, b, hS⟩
  · refine ⟨-1, g', ?_, ?_, h'⟩
    · simp only [f_Room_stage, hR.1, Option.bind_some]
      rfl
    · rw [hR.2.2.2.1]; rfl
  · obtain ⟨⟨⟨h22, h15, h16, h17, hst1, hst3⟩, -, ⟨-, -, h9, -, hγ⟩, -⟩, -, -, -, -, -, -, -, -, hK, -, -⟩ := hS
    simp only [f_Room_stage, f_Room_commonKey, h22, h15, h16, Option.bind_some]
    by_cases h2 : st = 2
    · obtain ⟨ea, eb⟩ := hK.1 h2
      refine ⟨s 27 0 0, g', ?_, ?_, h'⟩
      · rw [h2]; rfl
      · rw [if_neg (by decide), if_pos h2, if_neg (by decide), eb.1, mel_spec hT' hγ h9 eb.2, ea]; rfl
    · refine ⟨-1, g', ?_, ?_, h'⟩
      · rw [if_pos (by rw [I2, I_eq (by omega) (by omega)]; exact h2)]; rfl
      · rw [if_neg (by decide), if_neg h2]; rfl
theorem fa_told {s : jU} {g : jS} (h : Rel s g) (x : Int32) : FaP Rel [(xB, 1)] s (f_SR_told x s) (f_Mod_told x g) := by
  have e : ∃ b, rBo s g b := by
    rcases h.2.2 with hR | ⟨st, r, γ, n, t, n0, t0, dm, em, b, -, -, -, -, -, -, -, -, -, -, hB, -⟩
    · exact ⟨_, hR.2.2.2.2.2.2.2⟩
    · exact ⟨_, hB⟩
  obtain ⟨b, h41, h40, hb, hby⟩ := e
  unfold FaP f_SR_told f_Mod_told f_Board_size
  rw [h41, h40]
  rcases I_cases x with hx | ⟨a, rfl, ha⟩
  · right
    rw [if_pos hx, if_pos hx]
    exact ⟨_, 1, _, _, List.mem_singleton.mpr rfl, rfl, rfl, rfl, Rel_0 _ h⟩
  · have h0 : ¬ I a < 0 := by rw [I0, I_lt (by omega) (by omega)]; omega
    rw [if_neg h0, if_neg h0, Option.bind_some]
    by_cases hab : a < b
    · left
      have h1 : I a < I b := by rw [I_lt (by omega) (by omega)]; exact hab
      rw [if_pos h1, if_pos h1]
      refine ⟨s 40 0 a &&& 255, va_up g 0 (fun _ => 0), ?_, ?_, rfl, Rel_0 _ h⟩
      · unfold f_Board_byteAt
        rw [if_pos (by rw [I_jin (by omega)]; omega), I_cl (by omega)]; rfl
      · simp only [Option.bind_some, jlet]
        rw [if_pos (show va_up g 0 (fun _ => (0 : Int32)) 0 0 ≤ 0 from le00), if_pos (by rw [I_jin (by omega)]; omega), I_cl (by omega), ← hby a hab]; rfl
    · right
      have h1 : ¬ I a < I b := by rw [I_lt (by omega) (by omega)]; exact hab
      rw [if_neg h1, if_neg h1]
      exact ⟨_, 1, _, _, List.mem_singleton.mpr rfl, rfl, rfl, rfl, Rel_0 _ h⟩
theorem cworks_spec {s : jU} {i w r : Nat} (h : s 10 i 0 = I w) (hw : w < 9) (hr : r < 100) : f_Party_worksIn i (I r) s = some (I (if r < w then 1 else 0)) := by
  unfold f_Party_worksIn
  rw [h]
  by_cases hc : r < w
  · rw [if_neg (by rw [I_le (by omega) (by omega)]; omega), if_pos hc]; rfl
  · rw [if_pos (by rw [I_le (by omega) (by omega)]; omega), if_neg hc]; rfl
theorem cnever_spec {s : jU} {i w : Nat} (h : s 10 i 0 = I w) (hw : w < 9) : f_Party_neverCrashes i s = some (I (if w = 8 then 1 else 0)) := by
  unfold f_Party_neverCrashes
  rw [h]
  by_cases hc : w = 8
  · rw [if_neg (by rw [hc]; decide), if_pos hc]; rfl
  · rw [if_pos (by rw [I8, I_eq (by omega) (by omega)]; omega), if_neg hc]; rfl
theorem mworks_spec {g : jS} {p w r : Nat} (h1 : 1 ≤ p) (h7 : p ≤ 7) (h : g 22 (p - 1) = I w) (hw : w < 9) (hr : r < 100) : f_Mod_works (I p) (I r) g = some (I (if w = 8 ∨ r < w then 1 else 0)) := by
  unfold f_Mod_works
  have hj7 : jin (I p - 1) 7 := by rw [I1, I_sub h1, I_jin (by omega)]; omega
  have hcl : (I p - 1).toNatClampNeg = p - 1 := by rw [I1, I_sub h1, I_cl (by omega)]
  rw [if_pos hj7, hcl, h]
  by_cases hc : w = 8
  · rw [if_pos (by rw [hc]; rfl), if_pos (Or.inl hc)]; rfl
  · rw [if_neg (by rw [I8, I_eq (by omega) (by omega)]; omega), if_pos hj7]
    by_cases hd : r < w
    · rw [if_neg (by rw [I_le (by omega) (by omega)]; omega), if_pos (Or.inr hd)]; rfl
    · rw [if_pos (by rw [I_le (by omega) (by omega)]; omega), if_neg (by omega)]; rfl

theorem work_loop {s : jU} {g : jS} {st r γ n t n0 t0 : Nat} (hS : rSc s g st r γ n t n0 t0) (hC : rCr s g) (hr : st = 1 → r ≤ 6) : ∀ (d i k l a : Nat), i + d = n + 1 → 1 ≤ i → d < k → d < l → a < 128 → ∃ m, m < 128 ∧ L_Room_workingBits_4 s k (I a) (I i) = some (I m, I (n + 1)) ∧ L_Mod_parties_111 g l (I a) (I i) = some (I m, I (n + 1)) := by
  obtain ⟨⟨h22, h15, h16, h17, hst1, hst3⟩, ⟨h23, h18, hr7⟩, -, ⟨h20, h11, -, -, -, -, h7⟩, -⟩ := hS
  intro d
  induction d with
  | zero =>
    intro i k l a hi h1 hk hl ha
    match k, l, hk, hl with
    | k + 1, l + 1, _, _ =>
      unfold L_Room_workingBits_4 L_Mod_parties_111
      have hlt : I n < I i := by rw [I_lt (by omega) (by omega)]; omega
      rw [h20, h11, if_pos hlt, if_pos hlt, show i = n + 1 from by omega]
      exact ⟨a, ha, rfl, rfl⟩
  | succ d ih =>
    intro i k l a hi h1 hk hl ha
    match k, l, hk, hl with
    | k + 1, l + 1, hk, hl =>
      unfold L_Room_workingBits_4 L_Mod_parties_111
      have hlt : ¬ I n < I i := by rw [I_lt (by omega) (by omega)]; omega
      obtain ⟨e22, eO, eU⟩ := hC (i - 1) (by omega)
      have e22' := e22.trans eO
      have hw : ∃ v, (v = 0 ∨ v = 1) ∧ (if ¬ s 22 0 0 = 1 then Option.bind (jidx (I i - 1) 7) fun k14 => Option.bind (f_Party_neverCrashes k14 s) fun x17 => some x17 else Option.bind (jidx (I i - 1) 7) fun k18 => Option.bind (f_Party_worksIn k18 (s 23 0 0 + 1) s) fun x21 => some x21) = some (I v) ∧ (Option.bind (if ¬ g 16 0 = 0 then some 8 else if g 17 0 = 0 then some (g 18 0 + 1) else some 8) fun x14 => f_Mod_works (I i) x14 g) = some (I v) := by
        rw [h22, h23, h16, h17, h18, jidx_P (by omega), I1, I_add, I8]
        simp only [Option.bind_some]
        rw [cnever_spec eO eU, cworks_spec eO eU (by omega)]
        by_cases hs1 : st = 1
        · refine ⟨if r + 1 < U (s 10 (i - 1) 0) then 1 else 0, by split <;> omega, ?_, ?_⟩
          · rw [if_neg (by rw [hs1]; decide)]; rfl
          · rw [if_neg (by rw [if_neg (by omega)]; decide), if_pos (by rw [if_neg (by omega)]; decide), Option.bind_some, mworks_spec h1 (by omega) e22' eU (by omega)]
            have := hr hs1
            by_cases hu : r + 1 < U (s 10 (i - 1) 0)
            · rw [if_pos (Or.inr hu), if_pos hu]
            · rw [if_neg (by omega), if_neg hu]
        · refine ⟨if U (s 10 (i - 1) 0) = 8 then 1 else 0, by split <;> omega, ?_, ?_⟩
          · rw [if_pos (by rw [I_eq (by omega) (by omega)]; exact hs1)]; rfl
          · have e : (if ¬ I (if st = 2 then 1 else 0) = 0 then some (I 8) else if I (if st = 3 then 1 else 0) = 0 then some (I (r + 1)) else some (I 8)) = some (I 8) := by
              match st, hst1, hst3, hs1 with
              | 2, _, _, _ => rfl
              | 3, _, _, _ => rfl
            rw [e, Option.bind_some, mworks_spec h1 (by omega) e22' eU (by omega)]
            by_cases hu : U (s 10 (i - 1) 0) = 8
            · rw [if_pos (Or.inl hu), if_pos hu]
            · rw [if_neg (by omega), if_neg hu]
      obtain ⟨v, hv, hwc, hwm⟩ := hw
      rw [h20, h11, if_neg hlt, if_neg hlt]
      rw [hwc, Option.bind_some]
      rw [show ∀ F : Int32 → Option (Int32 × Int32), (Option.bind (if ¬ g 16 0 = 0 then some 8 else if g 17 0 = 0 then some (g 18 0 + 1) else some 8) fun x14 => Option.bind (f_Mod_works (I i) x14 g) F) = Option.bind (some (I v)) F from fun F => by rw [← hwm]; exact (Option.bind_assoc _ _ _).symm, Option.bind_some]
      simp only [jlet, f_SR_bit, B_bit h1 (show i < 8 by omega), Option.bind_some]
      rcases hv with rfl | rfl
      · rw [if_pos (show I 0 = 0 from rfl), if_pos (show I 0 = 0 from rfl), Option.bind_some, Option.bind_some, I1, I_add, show I a ||| 0 = I a from by rw [I0, B_or a ha 0 (by omega), Nat.or_zero]]
        exact ih (i + 1) k l a (by omega) (by omega) (by omega) (by omega) ha
      · rw [if_neg (show ¬ I 1 = 0 by decide), if_neg (show ¬ I 1 = 0 by decide), Option.bind_some, Option.bind_some, I1, I_add, B_or a ha _ (p2_lt (by omega))]
        exact ih (i + 1) k l _ (by omega) (by omega) (by omega) (by omega) (or_lt ha (by omega))
theorem fa_parties {s : jU} {g : jS} (h : Rel s g) (x : Int32) : FaQ Rel s (f_SR_parties x s) (f_Mod_parties x g) := by
  simp only [FaQ, f_SR_parties, f_Mod_parties, jlet]
  have hR' : Rel0 s (va_up g 0 (fun _ => 0)) ∨ ∃ st r γ n t n0 t0 dm em b, RelR s (va_up g 0 (fun _ => 0)) st r γ n t n0 t0 dm em b := h.2.2
  have h' : Rel s (va_up g 0 (fun _ => 0)) := h
  generalize va_up g 0 (fun _ => (0 : Int32)) = g' at hR' h' ⊢
  have hneg : (x < 0 ∨ ¬ x < 0 ∧ ¬ x ≤ 3) → ∃ v g2, (if x = 0 then Option.bind (f_Room_qualifiedBits s) fun x15 => some x15 else if x = 1 then Option.bind (f_Room_accusedBits s) fun x17 => some x17 else if x = 2 then Option.bind (f_Room_openedBits s) fun x19 => some x19 else if x = 3 then Option.bind (f_Room_workingBits s) fun x21 => some x21 else some (-1)) = some v ∧ v = -1 ∧ g2 = g' := fun hx => by
    have e0 : ∀ k < 4, x ≠ I k := fun k hk e => by
      subst e
      rw [I0, I3, I_lt (by omega) (by omega), I_le (by omega) (by omega)] at hx; omega
    rw [if_neg (show x ≠ 0 from e0 0 (by omega)), if_neg (show x ≠ 1 from e0 1 (by omega)), if_neg (show x ≠ 2 from e0 2 (by omega)), if_neg (show x ≠ 3 from e0 3 (by omega))]
    exact ⟨_, _, rfl, rfl, rfl⟩
  rcases I_cases x with hx | ⟨a, rfl, ha⟩
  · obtain ⟨v, g2, e1, e2, e3⟩ := hneg (Or.inl hx)
    rw [if_pos hx, e1]
    subst e2
    exact ⟨_, _, rfl, rfl, h'⟩
  have h0 : ¬ I a < 0 := by rw [I0, I_lt (by omega) (by omega)]; omega
  by_cases h3 : a ≤ 3
  · have h3' : I a ≤ 3 := by rw [I3, I_le (by omega) (by omega)]; exact h3
    rw [if_neg h0, if_pos h3']
    rcases hR' with hR | ⟨st, r, γ, n, t, n0, t0, dm, em, b, hS⟩
    · rw [hR.2.2.2.1, if_neg (show ¬ ¬ I 0 = 0 from fun e => e rfl)]
      refine ⟨0, g', ?_, rfl, h'⟩
      have hand : ∀ y : Int32, y &&& I 0 = 0 := fun y => by
        show y &&& 0 = 0
        exact Int32.and_zero
      unfold f_Room_qualifiedBits f_Room_accusedBits f_Room_openedBits f_Room_workingBits L_Room_workingBits_4
      rw [mask_c hR.2.1 (by omega), hR.2.1]
      match a, h3 with
      | 0, _ => simp only [Option.bind_some]; rw [if_pos (by rfl)]; exact congrArg some (hand _)
      | 1, _ => simp only [Option.bind_some]; rw [if_neg (by decide), if_pos (by rfl)]; exact congrArg some (hand _)
      | 2, _ => simp only [Option.bind_some]; rw [if_neg (by decide), if_neg (by decide), if_pos (by rfl)]; exact congrArg some (hand _)
      | 3, _ => rw [if_neg (by decide), if_neg (by decide), if_neg (by decide), if_pos (by rfl)]; rfl
    · obtain ⟨hSc, -, -, hCr, -, -, -, -, hM, -, -, hRo⟩ := hS
      obtain ⟨m, hm, ec, em'⟩ := work_loop hSc hCr (fun e => (hRo.1 e).1) n 1 jF jF 0 (by omega) (by omega) (by have := hSc.2.2.2.1.2.2.2.2.2.2; unfold jF; omega) (by have := hSc.2.2.2.1.2.2.2.2.2.2; unfold jF; omega) (by omega)
      obtain ⟨⟨h22, h15, h16, h17, hst1, hst3⟩, ⟨h23, h18, hr7⟩, -, ⟨h20, h11, -, -, -, -, h7⟩, -⟩ := hSc
      obtain ⟨⟨a1, a2, a3⟩, ⟨b1, b2, b3⟩, ⟨c1, c2, c3⟩⟩ := hM
      have hand : I 0 &&& I (2 ^ n - 1) = I 0 := by
        show (0 : Int32) &&& _ = 0
        exact Int32.zero_and
      rw [h15, if_pos (show ¬ I 1 = 0 by decide)]
      unfold f_Room_qualifiedBits f_Room_accusedBits f_Room_openedBits f_Room_workingBits
      rw [mask_c h20 h7, mask_m h11 h7, h18, a1, b1, c1, show L_Room_workingBits_4 s jF 0 1 = _ from ec, show L_Mod_parties_111 g' jF 0 1 = _ from em']
      match a, h3 with
      | 0, _ =>
        refine ⟨s 24 0 0 &&& I (2 ^ n - 1), g', rfl, ?_, h'⟩
        rw [if_neg (by decide)]
        by_cases h4 : r < 4
        · rw [if_pos (by rw [I4, I_lt (by omega) (by omega)]; exact h4), a3 h4, hand]; rfl
        · rw [if_neg (by rw [I4, I_lt (by omega) (by omega)]; exact h4)]; rfl
      | 1, _ =>
        refine ⟨s 25 0 0 &&& I (2 ^ n - 1), g', rfl, ?_, h'⟩
        rw [if_pos (by decide), if_neg (by decide)]
        by_cases h4 : r < 6
        · rw [if_pos (by rw [I6, I_lt (by omega) (by omega)]; exact h4), b3 h4, hand]; rfl
        · rw [if_neg (by rw [I6, I_lt (by omega) (by omega)]; exact h4)]; rfl
      | 2, _ =>
        refine ⟨s 26 0 0 &&& I (2 ^ n - 1), g', rfl, ?_, h'⟩
        rw [if_pos (by decide), if_pos (by decide), if_neg (by decide)]
        by_cases h4 : r < 7
        · rw [if_pos (by rw [I7, I_lt (by omega) (by omega)]; exact h4), c3 h4, hand]; rfl
        · rw [if_neg (by rw [I7, I_lt (by omega) (by omega)]; exact h4)]; rfl
      | 3, _ => exact ⟨I m, g', rfl, rfl, h'⟩
  · have hn3 : ¬ I a ≤ 3 := by rw [I3, I_le (by omega) (by omega)]; exact h3
    obtain ⟨v, g2, e1, e2, e3⟩ := hneg (Or.inr ⟨h0, hn3⟩)
    rw [if_neg h0, if_neg hn3, e1]
    subst e2
    exact ⟨_, _, rfl, rfl, h'⟩

theorem ups_nK {s : jU} {K i K' : Nat} {a : Nat → Int32} (h : K' ≠ K) : ups s K i a K' = s K' := by
  unfold ups va_up; rw [if_neg h]
theorem ups_ni {s : jU} {K i K' j : Nat} {a : Nat → Int32} (h : j ≠ i) : ups s K i a K' j = s K' j := by
  unfold ups va_up
  by_cases e : K' = K
  · subst e; rw [if_pos rfl, if_neg h]
  · rw [if_neg e]
theorem ups_eq {s : jU} {K i : Nat} {a : Nat → Int32} : ups s K i a K i = a := by
  unfold ups va_up; rw [if_pos rfl, if_pos rfl]
theorem vu_ne {g : jS} {K K' : Nat} {a : Nat → Int32} (h : K' ≠ K) : va_up g K a K' = g K' := by
  unfold va_up; rw [if_neg h]
theorem vu_eq {g : jS} {K : Nat} {a : Nat → Int32} : va_up g K a K = a := by
  unfold va_up; rw [if_pos rfl]
theorem vu_vu {g : jS} {K : Nat} {a b : Nat → Int32} : va_up (va_up g K a) K b = va_up g K b := by
  funext j; unfold va_up; by_cases h : j = K
  · rw [if_pos h, if_pos h]
  · rw [if_neg h, if_neg h, if_neg h]
theorem upd_eq {f : Nat → Int32} {k : Nat} {x : Int32} : upd f k x k = x := by unfold upd; rw [if_pos rfl]
theorem upd_ne {f : Nat → Int32} {k j : Nat} {x : Int32} (h : j ≠ k) : upd f k x j = f j := by unfold upd; rw [if_neg h]
theorem afl_lt {N k : Nat} {v : Int32} {f : Nat → Int32} (h : k < N) : afl N v f k = v := by unfold afl; rw [if_pos h]
/-! loops -/
theorem loopU {σ : Type} (L : Nat → Int32 → σ → Option (Int32 × σ)) (N : Nat) (P : Nat → σ → Prop) (hstep : ∀ n i s, i < N → P i s → ∃ s', P (i + 1) s' ∧ L (n + 1) (I i) s = L n (I (i + 1)) s') (hend : ∀ n s, P N s → L (n + 1) (I N) s = some (I N, s)) : ∀ d i n s, i + d = N → d < n → P i s → ∃ s', L n (I i) s = some (I N, s') ∧ P N s' := by
  intro d
  induction d with
  | zero =>
    intro i n s hi hn hP
    match n, hn with
    | n + 1, _ =>
      have e : i = N := by omega
      subst e
      exact ⟨s, hend n s hP, hP⟩
  | succ d ih =>
    intro i n s hi hn hP
    match n, hn with
    | n + 1, hn =>
      obtain ⟨s', hP', e⟩ := hstep n i s (by omega) hP
      rw [e]
      exact ih (i + 1) n s' (by omega) (by omega) hP'
theorem loop2 {σ τ : Type} (L : Nat → Int32 → σ → Option (Int32 × σ)) (M : Nat → Int32 → τ → Option (Int32 × τ)) (N : Nat) (P : Nat → σ → τ → Prop) (hstep : ∀ n m i s g, i < N → P i s g → ∃ s' g', P (i + 1) s' g' ∧ L (n + 1) (I i) s = L n (I (i + 1)) s' ∧ M (m + 1) (I i) g = M m (I (i + 1)) g') (hend : ∀ n m s g, P N s g → L (n + 1) (I N) s = some (I N, s) ∧ M (m + 1) (I N) g = some (I N, g)) : ∀ d i n m s g, i + d = N → d < n → d < m → P i s g → ∃ s' g', L n (I i) s = some (I N, s') ∧ M m (I i) g = some (I N, g') ∧ P N s' g' := by
  intro d
  induction d with
  | zero =>
    intro i n m s g hi hn hm hP
    match n, m, hn, hm with
    | n + 1, m + 1, _, _ =>
      have e : i = N := by omega
      subst e
      obtain ⟨e1, e2⟩ := hend n m s g hP
      exact ⟨s, g, e1, e2, hP⟩
  | succ d ih =>
    intro i n m s g hi hn hm hP
    match n, m, hn, hm with
    | n + 1, m + 1, hn, hm =>
      obtain ⟨s', g', hP', e1, e2⟩ := hstep n m i s g (by omega) hP
      rw [e1, e2]
      exact ih (i + 1) n m s' g' (by omega) (by omega) (by omega) hP'
/-! ===== field ===== -/
theorem fsz_f {f : Nat} (h : f < 3) : fsz f = I (qf f) := by
  match f, h with | 0, _ => rfl | 1, _ => rfl | 2, _ => rfl
theorem qf_b (f : Nat) : 31 ≤ qf f ∧ qf f ≤ 1019 := by unfold qf; split <;> (try split) <;> omega
theorem fnum_f {f : Nat} (h : f < 3) : fnum (I f) = f := by
  match f, h with | 0, _ => rfl | 1, _ => rfl | 2, _ => rfl
theorem fa_field {s : jU} {g : jS} (h : Rel s g) (x : Int32) : FaV Rel [(xA, 1)] s (f_SR_field x s) (f_Mod_field x g) := by
  unfold FaV f_SR_field f_Mod_field
  rcases I_cases x with hx | ⟨a, rfl, ha⟩
  · right
    rw [if_pos hx, if_pos hx]
    exact ⟨_, 1, _, List.mem_singleton.mpr rfl, rfl, rfl, rfl, Rel_0 _ h⟩
  · have h0 : ¬ I a < 0 := by rw [I0, I_lt (by omega) (by omega)]; omega
    rw [if_neg h0, if_neg h0]
    by_cases h3 : a < 3
    · left
      rw [if_pos (show I a < 3 by rw [I3, I_lt (by omega) (by omega)]; exact h3), if_pos (show I a ≤ 2 by rw [I2, I_le (by omega) (by omega)]; omega), jidx_I h3 (by omega)]
      refine ⟨_, _, rfl, rfl, rfl, ?_⟩
      refine ⟨⟨a, 0, h3, by omega, rfl, rfl, rfl, rfl, ?_, ?_⟩, h.2.1, h.2.2⟩
      · intro j hj; omega
      · intro i j _ hj; omega
    · right
      rw [if_neg (show ¬ I a < 3 by rw [I3, I_lt (by omega) (by omega)]; exact h3), if_neg (show ¬ I a ≤ 2 by rw [I2, I_le (by omega) (by omega)]; omega)]
      exact ⟨_, 1, _, List.mem_singleton.mpr rfl, rfl, rfl, rfl, Rel_0 _ h⟩
/-! ===== point ===== -/
theorem elem_or {s : jU} {f : Nat} (hf : f < 3) (h51 : s 51 0 0 = I f) (x : Int32) : (∃ a, x = I a ∧ a < qf f ∧ f_Points_inField 0 x s = some (I 1) ∧ f_Mod_isElement (I f) x = some (I 1)) ∨ (f_Points_inField 0 x s = some (I 0) ∧ f_Mod_isElement (I f) x = some (I 0)) := by
  unfold f_Points_inField f_Field_has f_Mod_isElement
  have hq := qf_b f
  have ho : f_Mod_order (I f) = some (I (qf f)) := by
    match f, hf with | 0, _ => rfl | 1, _ => rfl | 2, _ => rfl
  rw [show s (51 + 0) 0 0 = I f from h51, fnum_f hf, fsz_f hf, ho]
  rcases I_cases x with hx | ⟨a, rfl, ha⟩
  · right
    rw [if_pos hx, if_pos hx]
    exact ⟨rfl, rfl⟩
  · have h0 : ¬ I a < 0 := by rw [I0, I_lt (by omega) (by omega)]; omega
    rw [if_neg h0, if_neg h0, Option.bind_some]
    by_cases h3 : a < qf f
    · left
      have hn : ¬ I (qf f) ≤ I a := by rw [I_le (by omega) (by omega)]; omega
      rw [if_neg hn]
      exact ⟨a, rfl, h3, rfl, rfl⟩
    · right
      have hn : I (qf f) ≤ I a := by rw [I_le (by omega) (by omega)]; omega
      rw [if_pos hn]
      exact ⟨rfl, rfl⟩
theorem hasAt_loop {s : jU} {g : jS} {c : Nat} (x : Int32) (hc : c ≤ 12) (h33 : s 33 0 0 = I c) (h2 : g 2 0 = I c) (h3 : ∀ j < c, g 3 j = s 30 0 j) : ∀ (d i n m : Nat), i + d = c → d < n → d < m → (∀ j < i, s 30 0 j ≠ x) →
    (L_Points_hasAt_2 0 x s n (I i) = some (.inl 1) ∧ ∃ y, L_Mod_point_51 x m (I i) (va_up g 0 (fun _ => 0)) = some (y, va_up g 0 (fun _ => 2))) ∨ ((∀ j < c, s 30 0 j ≠ x) ∧ L_Points_hasAt_2 0 x s n (I i) = some (.inr (I c)) ∧ L_Mod_point_51 x m (I i) (va_up g 0 (fun _ => 0)) = some (I c, va_up g 0 (fun _ => 0))) := by
  intro d
  induction d with
  | zero =>
    intro i n m hi hn hm hj
    match n, m, hn, hm with
    | n + 1, m + 1, _, _ =>
      have e : i = c := by omega
      subst e
      right
      unfold L_Points_hasAt_2 L_Mod_point_51
      have hle : I i ≤ I i := Int32.le_refl _
      rw [show s (33 + 4 * 0) 0 0 = I i from h33, show va_up g 0 (fun _ => (0 : Int32)) 2 0 = I i from h2, if_pos hle, if_pos hle]
      exact ⟨hj, rfl, rfl⟩
  | succ d ih =>
    intro i n m hi hn hm hj
    match n, m, hn, hm with
    | n + 1, m + 1, hn, hm =>
      have hle : ¬ I c ≤ I i := by rw [I_le (by omega) (by omega)]; omega
      have hji : jin (I i) 12 := by rw [I_jin (by omega)]; omega
      unfold L_Points_hasAt_2 L_Mod_point_51
      rw [show s (33 + 4 * 0) 0 0 = I c from h33, show va_up g 0 (fun _ => (0 : Int32)) 2 0 = I c from h2, if_neg hle, if_neg hle, if_neg (show ¬ ¬ va_up g 0 (fun _ => (0 : Int32)) 0 0 = 0 from fun e => e rfl), if_pos hji, if_pos hji, I_cl (by omega), show va_up g 0 (fun _ => (0 : Int32)) 3 i = g 3 i from rfl, h3 i (by omega)]
      by_cases he : s 30 0 i = x
      · left
        rw [if_neg (show ¬ ¬ s (30 + 4 * 0) 0 i = x from fun e => e he), if_neg (fun e => e he)]
        refine ⟨rfl, ?_⟩
        simp only [Option.bind_some, jlet, vu_vu]
        match m, hm with
        | m + 1, hm =>
          unfold L_Mod_point_51
          by_cases hl : va_up g 0 (fun _ => (2 : Int32)) 2 0 ≤ I i + 1
          · rw [if_pos hl]; exact ⟨_, rfl⟩
          · rw [if_neg hl, if_pos (show ¬ va_up g 0 (fun _ => (2 : Int32)) 0 0 = 0 from show ¬ (2 : Int32) = 0 by decide)]; exact ⟨_, rfl⟩
      · rw [if_pos (show ¬ s (30 + 4 * 0) 0 i = x from he), if_pos he]
        simp only [Option.bind_some, jlet, vu_vu, I1, I_add]
        exact ih (i + 1) n m (by omega) (by omega) (by omega) (fun j hj' => by
          by_cases hji' : j = i
          · subst hji'; exact he
          · exact hj j (by omega))
theorem fa_point {s : jU} {g : jS} (h : Rel s g) (x y : Int32) : FaI Rel [(xA, 1), (xS, 2)] s (f_SR_point x y s) (f_Mod_point x y g) := by
  obtain ⟨⟨f, c, hf, hc, h51, hg1, h33, hg2, hpt, hne⟩, hT, hR⟩ := id h
  unfold FaI f_SR_point f_Mod_point
  have hA : ∀ g', (xA, (1 : Int32)) ∈ [(xA, (1 : Int32)), (xS, 2)] ∧ f_Mod_thrown (va_up g' 0 (fun _ => 1)) = some 1 := fun g' => ⟨by simp, rfl⟩
  have hbad : ∀ k : Int32, ¬ k = 0 → 0 ≤ k → ∃ z, L_Mod_point_51 x jF 0 (va_up g 0 (fun _ => k)) = some (z, va_up g 0 (fun _ => k)) := fun k hk _ => by
    show ∃ z, L_Mod_point_51 x (3999 + 1) 0 _ = _
    unfold L_Mod_point_51
    by_cases hl : va_up g 0 (fun _ => k) 2 0 ≤ 0
    · rw [if_pos hl]; exact ⟨_, rfl⟩
    · rw [if_neg hl, if_pos (show ¬ va_up g 0 (fun _ => k) 0 0 = 0 from hk)]; exact ⟨_, rfl⟩
  rw [hg1]
  by_cases hx1 : x < 1
  · right
    rw [if_pos hx1, if_pos hx1]
    obtain ⟨z, hz⟩ := hbad 1 (by decide) (by decide)
    refine ⟨_, 1, 0, va_up g 0 (fun _ => 1), (hA g).1, rfl, ?_, rfl, Rel_0 _ h⟩
    simp only [Option.bind_some, jlet]
    rw [hz]; rfl
  · rw [if_neg hx1, if_neg hx1]
    rcases elem_or hf h51 x with ⟨a, rfl, ha, e1, e2⟩ | ⟨e1, e2⟩
    · rw [e1, e2, Option.bind_some, Option.bind_some, if_neg (show ¬ I 1 = 0 by decide), if_neg (show ¬ I 1 = 0 by decide)]
      have hq := qf_b f
      have ha1 : 1 ≤ a := by
        have : ¬ I a < I 1 := hx1
        rw [I_lt (by omega) (by omega)] at this; omega
      rcases elem_or hf h51 y with ⟨b, rfl, hb, e3, e4⟩ | ⟨e3, e4⟩
      · rw [e3, e4, Option.bind_some, Option.bind_some, if_pos (show ¬ I 1 = 0 by decide), if_pos (show ¬ I 1 = 0 by decide)]
        unfold f_Points_hasAt f_Points_isFull f_Points_add
        rw [show s (33 + 4 * 0) 0 0 = I c from h33, hg2]
        have hl := hasAt_loop (I a) hc h33 hg2 (fun j hj => (hpt j hj).1) c 0 jF jF (by omega) (by unfold jF; omega) (by unfold jF; omega) (fun j hj => by omega)
        rw [← I0] at hl
        by_cases h12 : c = 12
        · -- full: both say 2
          right
          rw [if_neg (show ¬ ¬ I c = 12 from fun e => e (by rw [h12]; rfl)), if_neg (show ¬ ¬ I c = 12 from fun e => e (by rw [h12]; rfl))]
          obtain ⟨z, hz⟩ := hbad 2 (by decide) (by decide)
          refine ⟨xS, 2, 0, va_up g 0 (fun _ => 2), by simp, ?_, ?_, rfl, Rel_0 _ h⟩
          · rcases hl with ⟨l1, -⟩ | ⟨-, l1, -⟩
            · rw [l1]; rfl
            · rw [l1]; rfl
          · simp only [Option.bind_some, jlet]
            rw [hz]; rfl
        · have hc12 : ¬ I c = 12 := by
            show ¬ I c = I 12
            rw [I_eq (by omega) (by omega)]; exact h12
          rw [if_pos hc12, if_pos hc12]
          rcases hl with ⟨l1, ⟨z, l2⟩⟩ | ⟨l0, l1, l2⟩
          · right
            refine ⟨xS, 2, 0, va_up g 0 (fun _ => 2), by simp, ?_, ?_, rfl, Rel_0 _ h⟩
            · rw [l1]; rfl
            · simp only [Option.bind_some, jlet]
              rw [l2]; rfl
          · left
            rw [l1]
            simp only [Option.bind_some, jlet, jend]
            rw [l2]
            simp only [Option.bind_some]
            have hj : jin (I c) 12 := by rw [I_jin (by omega)]; omega
            rw [if_neg (show ¬ ¬ True from fun e => e trivial), if_pos (show jbo 0 from Or.inl rfl), Option.bind_some, if_pos (show (0 : Int32) = 0 from rfl), if_neg (show ¬ 12 ≤ I c by show ¬ I 12 ≤ I c; rw [I_le (by omega) (by omega)]; omega), if_pos hj, if_pos (show va_up g 0 (fun _ => (0 : Int32)) 0 0 ≤ 0 from le00)]
            rw [if_pos (show jin (va_up g 0 (fun _ => (0 : Int32)) 2 0) 12 by show jin (g 2 0) 12; rw [hg2]; exact hj)]
            rw [if_pos (show jin (ups s (30 + 4 * 0) 0 (upd (s (30 + 4 * 0) 0) (I c).toNatClampNeg (I a)) (33 + 4 * 0) 0 0) 12 by show jin (s 33 0 0) 12; rw [h33]; exact hj)]
            rw [if_pos (show jin (va_up (va_up g 0 (fun _ => (0 : Int32))) 3 (upd (va_up g 0 (fun _ => (0 : Int32)) 3) (va_up g 0 (fun _ => (0 : Int32)) 2 0).toNatClampNeg (I a)) 2 0) 12 by show jin (g 2 0) 12; rw [hg2]; exact hj)]
            refine ⟨I (c + 1), _, _, congrArg some (congrArg Sum.inr (Prod.ext (show s 33 0 0 + 1 = I (c + 1) by rw [h33]; exact I_add c 1) rfl)), congrArg some (Prod.ext (show g 2 0 + 1 = I (c + 1) by rw [hg2]; exact I_add c 1) rfl), ?_, ?_⟩
            · rfl
            refine ⟨⟨f, c + 1, hf, by omega, h51, hg1, ?_, ?_, ?_, ?_⟩, hT, hR⟩
            · show s 33 0 0 + 1 = _
              rw [h33]; exact I_add c 1
            · show g 2 0 + 1 = _
              rw [hg2]; exact I_add c 1
            · intro j hj
              show upd (g 3) (g 2 0).toNatClampNeg (I a) j = upd (s 30 0) (I c).toNatClampNeg (I a) j ∧ upd (g 4) (g 2 0).toNatClampNeg (I b) j = upd (s 31 0) (s 33 0 0).toNatClampNeg (I b) j ∧ OK (qf f) (upd (s 30 0) (I c).toNatClampNeg (I a) j) ∧ OK (qf f) (upd (s 31 0) (s 33 0 0).toNatClampNeg (I b) j) ∧ 1 ≤ U (upd (s 30 0) (I c).toNatClampNeg (I a) j)
              rw [hg2, h33, I_cl (by omega)]
              by_cases hjc : j = c
              · subst hjc
                rw [upd_eq, upd_eq, upd_eq, upd_eq]
                exact ⟨rfl, rfl, OK_I ha (by omega), OK_I hb (by omega), by rw [U_I (by omega)]; exact ha1⟩
              · rw [upd_ne hjc, upd_ne hjc, upd_ne hjc, upd_ne hjc]
                exact hpt j (by omega)
            · intro i j hij hj
              show upd (s 30 0) (I c).toNatClampNeg (I a) i ≠ upd (s 30 0) (I c).toNatClampNeg (I a) j
              rw [I_cl (by omega), upd_ne (show i ≠ c by omega)]
              by_cases hjc : j = c
              · subst hjc
                rw [upd_eq]; exact l0 i (by omega)
              · rw [upd_ne hjc]; exact hne i j hij (by omega)
      · right
        rw [e3, e4, Option.bind_some, Option.bind_some, if_neg (show ¬ ¬ I 0 = 0 from fun e => e rfl), if_neg (show ¬ ¬ I 0 = 0 from fun e => e rfl)]
        obtain ⟨z, hz⟩ := hbad 1 (by decide) (by decide)
        refine ⟨_, 1, 0, va_up g 0 (fun _ => 1), (hA g).1, rfl, ?_, rfl, Rel_0 _ h⟩
        simp only [Option.bind_some, jlet]
        rw [hz]; rfl
    · right
      rw [e1, e2, Option.bind_some, Option.bind_some, if_pos (show I 0 = 0 from rfl), if_pos (show I 0 = 0 from rfl)]
      obtain ⟨z, hz⟩ := hbad 1 (by decide) (by decide)
      refine ⟨_, 1, 0, va_up g 0 (fun _ => 1), (hA g).1, rfl, ?_, rfl, Rel_0 _ h⟩
      simp only [Option.bind_some, jlet]
      rw [hz]; rfl

