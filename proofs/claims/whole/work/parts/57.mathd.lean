/-! ===== the byte field ===== -/
theorem I_xor (a b : Nat) : I a ^^^ I b = I (a ^^^ b) := by
  apply Int32.toBitVec_inj.mp
  show (Int32.ofNat a).toBitVec ^^^ (Int32.ofNat b).toBitVec = (Int32.ofNat (a ^^^ b)).toBitVec
  exact (BitVec.ofNat_xor).symm
def xt (a : Nat) : Nat := if a < 128 then 2 * a else (2 * a) ^^^ 283
def gl : Nat → Nat → Nat → Nat
  | 0, _, _ => 0
  | n + 1, a, b => (if b % 2 = 1 then a else 0) ^^^ gl n (xt a) (b / 2)
def gm (a b : Nat) : Nat := gl 8 a b
theorem xt_lt {a : Nat} (h : a < 256) : xt a < 256 := by
  unfold xt
  split
  · omega
  · have : ∀ a < 256, ¬ a < 128 → (2 * a) ^^^ 283 < 256 := by decide +kernel
    exact this a h (by assumption)
theorem xt_eq {a : Nat} : xt a = (2 * a) ^^^ (if a < 128 then 0 else 283) := by
  unfold xt; split
  · rw [Nat.xor_zero]
  · rfl
theorem hb7 {a : Nat} (h : a < 256) : (a < 128) ↔ a.testBit 7 = false := by
  have : ∀ a < 256, (a < 128 ↔ a.testBit 7 = false) := by decide +kernel
  exact this a h
theorem xor8 {a b : Nat} (ha : a < 256) (hb : b < 256) : a ^^^ b < 256 := Nat.xor_lt_two_pow (n := 8) ha hb
theorem x4 (a b c d : Nat) : (a ^^^ b) ^^^ (c ^^^ d) = (a ^^^ c) ^^^ (b ^^^ d) := by
  rw [Nat.xor_assoc, Nat.xor_assoc]; congr 1
  rw [← Nat.xor_assoc, ← Nat.xor_assoc, Nat.xor_comm b c]
theorem xt_add {a b : Nat} (ha : a < 256) (hb : b < 256) : xt (a ^^^ b) = xt a ^^^ xt b := by
  rw [xt_eq, xt_eq, xt_eq, x4]
  have e1 : 2 * (a ^^^ b) = 2 * a ^^^ 2 * b := by
    have := Nat.shiftLeft_xor_distrib (a := a) (b := b) (i := 1)
    simp only [Nat.shiftLeft_eq, Nat.pow_one] at this
    rw [Nat.mul_comm 2, this, Nat.mul_comm a, Nat.mul_comm b]
  rw [e1]
  congr 1
  have h1 := hb7 ha
  have h2 := hb7 hb
  have h3 := hb7 (xor8 ha hb)
  rw [Nat.testBit_xor] at h3
  cases e2 : a.testBit 7 <;> cases e3 : b.testBit 7 <;> simp only [e2, e3] at h1 h2 h3 <;> simp_all
  · rw [if_neg (by omega), if_neg (by omega)]
  · rw [if_neg (by omega), if_neg (by omega)]
  · rw [if_neg (by omega), if_neg (by omega)]; rfl
theorem gl_lt : ∀ (n a b : Nat), a < 256 → gl n a b < 256
  | 0, _, _, _ => by simp [gl]
  | n + 1, a, b, h => by
    unfold gl
    refine xor8 ?_ (gl_lt n _ _ (xt_lt h))
    split <;> omega
theorem gl_addL : ∀ (n a a' b : Nat), a < 256 → a' < 256 → gl n (a ^^^ a') b = gl n a b ^^^ gl n a' b
  | 0, _, _, _, _, _ => by simp [gl]
  | n + 1, a, a', b, h, h' => by
    unfold gl
    rw [xt_add h h', gl_addL n _ _ _ (xt_lt h) (xt_lt h'), x4]
    congr 1
    split
    · rfl
    · rfl
theorem gl_addR : ∀ (n a b b' : Nat), gl n a (b ^^^ b') = gl n a b ^^^ gl n a b'
  | 0, _, _, _ => by simp [gl]
  | n + 1, a, b, b' => by
    unfold gl
    rw [Nat.xor_div_two, gl_addR n, x4]
    congr 1
    have h1 := Nat.xor_mod_two_eq_one (a := b) (b := b')
    by_cases e1 : b % 2 = 1 <;> by_cases e2 : b' % 2 = 1 <;> simp only [e1, e2] at h1 <;> simp_all
theorem gm_lt {a b : Nat} (h : a < 256) : gm a b < 256 := gl_lt 8 a b h
theorem lin_ext (f g : Nat → Nat) (hf : ∀ a b, a < 256 → b < 256 → f (a ^^^ b) = f a ^^^ f b) (hg : ∀ a b, a < 256 → b < 256 → g (a ^^^ b) = g a ^^^ g b) (h : ∀ i < 8, f (2 ^ i) = g (2 ^ i)) : ∀ a < 256, f a = g a := by
  have key : ∀ n, n ≤ 8 → ∀ a, a < 2 ^ n → f a = g a := by
    intro n
    induction n with
    | zero =>
      intro _ a ha
      have e : a = 0 := by simp at ha; omega
      have f0 := hf 0 0 (by decide) (by decide)
      have g0 := hg 0 0 (by decide) (by decide)
      rw [Nat.xor_self] at f0 g0
      rw [e, show f 0 = 0 from by rw [f0]; exact Nat.xor_self _, show g 0 = 0 from by rw [g0]; exact Nat.xor_self _]
    | succ n ih =>
      intro hn a ha
      by_cases hl : a < 2 ^ n
      · exact ih (by omega) a hl
      · have hp : 2 ^ n < 256 := by
          have : 2 ^ n < 2 ^ 8 := Nat.pow_lt_pow_of_lt (by decide) (by omega)
          simpa using this
        have ha8 : a < 256 := by
          have : 2 ^ (n + 1) ≤ 2 ^ 8 := Nat.pow_le_pow_right (by decide) hn
          omega
        have hlow : a ^^^ 2 ^ n < 2 ^ n := by
          apply Nat.lt_pow_two_of_testBit
          intro i hi
          rw [Nat.testBit_xor, Nat.testBit_two_pow]
          by_cases e : i = n
          · subst e
            have : a.testBit i = true := by
              have h1 : a = 2 ^ i + (a - 2 ^ i) := by omega
              rw [h1, Nat.testBit_two_pow_add_eq, Nat.testBit_lt_two_pow (by rw [Nat.pow_succ] at ha; omega)]; rfl
            simp [this]
          · rw [Nat.testBit_lt_two_pow (Nat.lt_of_lt_of_le ha (Nat.pow_le_pow_right (by decide) (by omega)))]
            simp; omega
        have e : a = 2 ^ n ^^^ (a ^^^ 2 ^ n) := by
          rw [Nat.xor_comm a, ← Nat.xor_assoc, Nat.xor_self, Nat.zero_xor]
        rw [e, hf _ _ hp (by omega), hg _ _ hp (by omega), h n (by omega), ih (by omega) _ hlow]
  exact fun a ha => key 8 (Nat.le_refl _) a ha
theorem p2l : ∀ i < 8, 2 ^ i < 256 := by decide
theorem gm_comm {a b : Nat} (ha : a < 256) (hb : b < 256) : gm a b = gm b a := by
  refine lin_ext (fun a => gm a b) (fun a => gm b a) (fun x y hx hy => gl_addL 8 x y b hx hy) (fun x y _ _ => gl_addR 8 b x y) (fun i hi => ?_) a ha
  refine lin_ext (fun b => gm (2 ^ i) b) (fun b => gm b (2 ^ i)) (fun x y _ _ => gl_addR 8 _ x y) (fun x y hx hy => gl_addL 8 x y _ hx hy) (fun j hj => ?_) b hb
  have : ∀ i < 8, ∀ j < 8, gm (2 ^ i) (2 ^ j) = gm (2 ^ j) (2 ^ i) := by decide +kernel
  exact this i hi j hj
theorem gm_assoc {a b c : Nat} (ha : a < 256) (hb : b < 256) (hc : c < 256) : gm (gm a b) c = gm a (gm b c) := by
  refine lin_ext (fun a => gm (gm a b) c) (fun a => gm a (gm b c)) (fun x y hx hy => ?_) (fun x y hx hy => gl_addL 8 x y _ hx hy) (fun i hi => ?_) a ha
  · show gl 8 (gl 8 (x ^^^ y) b) c = _
    rw [gl_addL 8 x y b hx hy, gl_addL 8 _ _ c (gl_lt 8 x b hx) (gl_lt 8 y b hy)]; rfl
  have hi2 := p2l i hi
  refine lin_ext (fun b => gm (gm (2 ^ i) b) c) (fun b => gm (2 ^ i) (gm b c)) (fun x y hx hy => ?_) (fun x y hx hy => ?_) (fun j hj => ?_) b hb
  · show gl 8 (gl 8 (2 ^ i) (x ^^^ y)) c = _
    rw [gl_addR 8 _ x y, gl_addL 8 _ _ c (gl_lt 8 _ x hi2) (gl_lt 8 _ y hi2)]; rfl
  · show gl 8 (2 ^ i) (gl 8 (x ^^^ y) c) = _
    rw [gl_addL 8 x y c hx hy, gl_addR 8]; rfl
  have hj2 := p2l j hj
  refine lin_ext (fun c => gm (gm (2 ^ i) (2 ^ j)) c) (fun c => gm (2 ^ i) (gm (2 ^ j) c)) (fun x y hx hy => gl_addR 8 _ x y) (fun x y hx hy => ?_) (fun k hk => ?_) c hc
  · show gl 8 (2 ^ i) (gl 8 (2 ^ j) (x ^^^ y)) = _
    rw [gl_addR 8, gl_addR 8]; rfl
  have : ∀ i < 8, ∀ j < 8, ∀ k < 8, gm (gm (2 ^ i) (2 ^ j)) (2 ^ k) = gm (2 ^ i) (gm (2 ^ j) (2 ^ k)) := by decide +kernel
  exact this i hi j hj k hk
/-! ===== the three fields over Nat ===== -/
def fad (f a b : Nat) : Nat := if f = 0 then a ^^^ b else (a + b) % qf f
def fsu (f a b : Nat) : Nat := if f = 0 then a ^^^ b else (a + qf f - b) % qf f
def fmu (f a b : Nat) : Nat := if f = 0 then gm a b else a * b % qf f
def ip (f : Nat) : Nat → Nat → Nat → Nat → Nat
  | 0, x, _, _ => x
  | n + 1, x, y, e => if e = 0 then x else ip f n (if e % 2 = 1 then fmu f x y else x) (fmu f y y) (e / 2)
def fiv (f a : Nat) : Nat := ip f 10 1 a (qf f - 2)
theorem fiv_ok0 : ∀ a < 256, a ≠ 0 → fmu 0 a (fiv 0 a) = 1 := by decide +kernel
theorem fiv_ok1 : ∀ a < 1019, a ≠ 0 → fmu 1 a (fiv 1 a) = 1 := by decide +kernel
theorem fiv_ok2 : ∀ a < 31, a ≠ 0 → fmu 2 a (fiv 2 a) = 1 := by decide +kernel
theorem fad_lt {f a b : Nat} (ha : a < qf f) (hb : b < qf f) : fad f a b < qf f := by
  unfold fad
  split
  · rename_i h; subst h; exact xor8 ha hb
  · exact Nat.mod_lt _ (by omega)
theorem fsu_lt {f a b : Nat} (ha : a < qf f) (hb : b < qf f) : fsu f a b < qf f := by
  unfold fsu
  split
  · rename_i h; subst h; exact xor8 ha hb
  · exact Nat.mod_lt _ (by omega)
theorem fmu_lt {f a b : Nat} (ha : a < qf f) : fmu f a b < qf f := by
  unfold fmu
  split
  · rename_i h; subst h; exact gm_lt ha
  · exact Nat.mod_lt _ (by omega)
theorem ip_lt {f : Nat} : ∀ (n x y e : Nat), x < qf f → y < qf f → ip f n x y e < qf f
  | 0, _, _, _, h, _ => h
  | n + 1, x, y, e, h, h2 => by
    unfold ip
    split
    · exact h
    · refine ip_lt n _ _ _ ?_ (fmu_lt h2)
      split
      · exact fmu_lt h
      · exact h
theorem fiv_lt {f a : Nat} (ha : a < qf f) : fiv f a < qf f := ip_lt _ _ _ _ (by have := qf_b f; omega) ha
theorem fiv_ok {f a : Nat} (hf : f < 3) (ha : a < qf f) (h0 : a ≠ 0) : fmu f a (fiv f a) = 1 := by
  match f, hf with
  | 0, _ => exact fiv_ok0 a ha h0
  | 1, _ => exact fiv_ok1 a ha h0
  | 2, _ => exact fiv_ok2 a ha h0
theorem fmu_comm {f a b : Nat} (ha : a < qf f) (hb : b < qf f) : fmu f a b = fmu f b a := by
  unfold fmu
  split
  · rename_i h; subst h; exact gm_comm ha hb
  · rw [Nat.mul_comm]
theorem fmu_assoc {f a b c : Nat} (ha : a < qf f) (hb : b < qf f) (hc : c < qf f) : fmu f (fmu f a b) c = fmu f a (fmu f b c) := by
  unfold fmu
  by_cases h : f = 0
  · rw [if_pos h, if_pos h, if_pos h, if_pos h]; subst h; exact gm_assoc ha hb hc
  · rw [if_neg h, if_neg h, if_neg h, if_neg h]
    have e1 : Cg (qf f) (a * b % qf f * c) (a * b * c) := (Cg.md _ _).ml Cg.rf
    have e2 : Cg (qf f) (a * (b * c % qf f)) (a * (b * c)) := Cg.rf.ml (Cg.md _ _)
    exact e1.tr ((Cg.of (Nat.mul_assoc a b c)).tr e2.sy)
theorem fad_comm {f a b : Nat} : fad f a b = fad f b a := by
  unfold fad; split
  · exact Nat.xor_comm _ _
  · rw [Nat.add_comm]
theorem fad_assoc {f a b c : Nat} : fad f (fad f a b) c = fad f a (fad f b c) := by
  unfold fad
  by_cases h : f = 0
  · rw [if_pos h, if_pos h, if_pos h, if_pos h]; exact Nat.xor_assoc _ _ _
  · rw [if_neg h, if_neg h, if_neg h, if_neg h]
    have e1 : Cg (qf f) ((a + b) % qf f + c) (a + b + c) := (Cg.md _ _).ad Cg.rf
    have e2 : Cg (qf f) (a + (b + c) % qf f) (a + (b + c)) := Cg.rf.ad (Cg.md _ _)
    exact e1.tr ((Cg.of (Nat.add_assoc a b c)).tr e2.sy)
theorem fmu_dist {f a b c : Nat} (ha : a < qf f) (hb : b < qf f) (hc : c < qf f) : fmu f a (fad f b c) = fad f (fmu f a b) (fmu f a c) := by
  unfold fmu fad
  by_cases h : f = 0
  · simp only [if_pos h]; exact gl_addR 8 a b c
  · simp only [if_neg h]
    have e1 : Cg (qf f) (a * ((b + c) % qf f)) (a * (b + c)) := Cg.rf.ml (Cg.md _ _)
    have e2 : Cg (qf f) (a * b % qf f + a * c % qf f) (a * b + a * c) := (Cg.md _ _).ad (Cg.md _ _)
    exact e1.tr ((Cg.of (Nat.mul_add a b c)).tr e2.sy)
theorem fad_zero {f a : Nat} (ha : a < qf f) : fad f a 0 = a := by
  unfold fad; split
  · exact Nat.xor_zero _
  · exact Nat.mod_eq_of_lt ha
theorem gm_one : ∀ a < 256, gm a 1 = a := by decide +kernel
theorem fmu_one {f a : Nat} (ha : a < qf f) : fmu f a 1 = a := by
  unfold fmu; split
  · rename_i h; subst h; exact gm_one a ha
  · rw [Nat.mul_one]; exact Nat.mod_eq_of_lt ha
theorem gl_zero : ∀ n a, gl n a 0 = 0
  | 0, _ => rfl
  | n + 1, a => by simp [gl, gl_zero n]
theorem fmu_zero {f a : Nat} : fmu f a 0 = 0 := by
  unfold fmu; split
  · exact gl_zero 8 a
  · rw [Nat.mul_zero]; exact Nat.zero_mod _
theorem fsu_eq {f a b : Nat} (ha : a < qf f) (hb : b < qf f) : fsu f a b = fad f a (fsu f 0 b) := by
  unfold fsu fad
  by_cases h : f = 0
  · simp only [if_pos h]; rw [Nat.zero_xor]
  · simp only [if_neg h]
    have e2 : Cg (qf f) (a + (0 + qf f - b) % qf f) (a + (0 + qf f - b)) := Cg.rf.ad (Cg.md _ _)
    exact (Cg.of (by omega)).tr e2.sy
theorem fsu_self {f a : Nat} (ha : a < qf f) : fad f (fsu f 0 a) a = 0 := by
  unfold fsu fad
  by_cases h : f = 0
  · simp only [if_pos h]; rw [Nat.zero_xor, Nat.xor_self]
  · simp only [if_neg h]
    have e1 : Cg (qf f) ((0 + qf f - a) % qf f + a) (0 + qf f - a + a) := (Cg.md _ _).ad Cg.rf
    have e2 : (0 + qf f - a + a) % qf f = 0 := by rw [show 0 + qf f - a + a = qf f from by omega]; exact Nat.mod_self _
    exact Eq.trans e1 e2

/-! ===== a commutative ring of two operations ===== -/
def RgA {α : Type} (ad mu : α → α → α) (ng : α → α) (z o : α) : Prop := (∀ a, ad a z = a) ∧ (∀ a b, ad a b = ad b a) ∧ (∀ a b c, ad (ad a b) c = ad a (ad b c)) ∧ (∀ a b c, mu (mu a b) c = mu a (mu b c)) ∧ (∀ a b, mu a b = mu b a) ∧ (∀ a, mu a o = a) ∧ (∀ a b c, mu a (ad b c) = ad (mu a b) (mu a c)) ∧ (∀ a, mu a z = z) ∧ (∀ a, ad (ng a) a = z)
def rnc {α : Type} (ad : α → α → α) (z o : α) : Nat → α
  | 0 => z
  | n + 1 => ad (rnc ad z o n) o
def ric {α : Type} (ad : α → α → α) (ng : α → α) (z o : α) : Int → α
  | .ofNat n => rnc ad z o n
  | .negSucc n => ng (rnc ad z o (n + 1))
def rpw {α : Type} (mu : α → α → α) (o a : α) : Nat → α
  | 0 => o
  | n + 1 => mu (rpw mu o a n) a
section
variable {α : Type} {ad mu : α → α → α} {ng : α → α} {z o : α}
theorem rg_un (h : RgA ad mu ng z o) {a b : α} (e : ad a b = z) : a = ng b := by
  obtain ⟨h1, h2, h3, -, -, -, -, -, h9⟩ := h
  have : ad a (ad b (ng b)) = ng b := by rw [← h3, e, h2, h1]
  rw [h2 b, h9, h1] at this; exact this
theorem rg_nn (h : RgA ad mu ng z o) (a : α) : ng (ng a) = a := by
  have h' := h
  obtain ⟨h1, h2, h3, -, -, -, -, -, h9⟩ := h'
  exact (rg_un h (by rw [h2]; exact h9 a)).symm
theorem rg_nz (h : RgA ad mu ng z o) : ng z = z := by
  have h' := h
  obtain ⟨h1, h2, h3, -, -, -, -, -, h9⟩ := h'
  exact (rg_un h (h1 z)).symm
theorem rg_nm (h : RgA ad mu ng z o) (a b : α) : mu (ng a) b = ng (mu a b) := by
  have h' := h
  obtain ⟨h1, h2, h3, h4, h5, h6, h7, h8, h9⟩ := h'
  apply rg_un h
  rw [h5 (ng a), h5 a, ← h7, h9, h8]
theorem ric_neg (h : RgA ad mu ng z o) : ∀ i : Int, ric ad ng z o (-i) = ng (ric ad ng z o i)
  | .ofNat 0 => (rg_nz h).symm
  | .ofNat (n + 1) => rfl
  | .negSucc n => (rg_nn h _).symm
end
abbrev crOf {α : Type} (ad mu : α → α → α) (ng : α → α) (z o : α) (h : RgA ad mu ng z o) : Lean.Grind.CommRing α :=
  { add := ad, mul := mu, neg := ng, sub := fun a b => ad a (ng b)
    natCast := ⟨rnc ad z o⟩, ofNat := fun n => ⟨rnc ad z o n⟩, nsmul := ⟨fun n a => mu (rnc ad z o n) a⟩
    npow := ⟨fun a n => rpw mu o a n⟩, intCast := ⟨ric ad ng z o⟩, zsmul := ⟨fun i a => mu (ric ad ng z o i) a⟩
    add_zero := h.1, add_comm := h.2.1, add_assoc := h.2.2.1, mul_assoc := h.2.2.2.1
    mul_comm := h.2.2.2.2.1
    mul_one := fun a => (by
      show mu a (ad z o) = a
      rw [h.2.1, h.1]; exact h.2.2.2.2.2.1 a)
    one_mul := fun a => (by
      show mu (ad z o) a = a
      rw [h.2.1, h.1, h.2.2.2.2.1]; exact h.2.2.2.2.2.1 a)
    left_distrib := h.2.2.2.2.2.2.1
    right_distrib := fun a b c => (by
      show mu (ad a b) c = ad (mu a c) (mu b c)
      rw [h.2.2.2.2.1, h.2.2.2.2.2.2.1, h.2.2.2.2.1 c a, h.2.2.2.2.1 c b])
    zero_mul := fun a => (by
      show mu z a = z
      rw [h.2.2.2.2.1]; exact h.2.2.2.2.2.2.2.1 a)
    mul_zero := h.2.2.2.2.2.2.2.1
    pow_zero := fun a => (by
      show o = ad z o
      rw [h.2.1, h.1])
    pow_succ := fun a n => rfl
    ofNat_succ := fun n => (by
      show ad (rnc ad z o n) o = ad (rnc ad z o n) (ad z o)
      rw [h.2.1 z, h.1])
    ofNat_eq_natCast := fun n => rfl
    nsmul_eq_natCast_mul := fun n a => rfl
    neg_add_cancel := h.2.2.2.2.2.2.2.2
    sub_eq_add_neg := fun a b => rfl
    neg_zsmul := fun i a => (by
      show mu (ric ad ng z o (-i)) a = ng (mu (ric ad ng z o i) a)
      rw [ric_neg h, rg_nm h])
    zsmul_natCast_eq_nsmul := fun n a => rfl
    intCast_ofNat := fun n => rfl
    intCast_neg := ric_neg h }
/-! the field number f -/
def FdM (f : Nat) : Type := { a : Nat // a < qf f }
theorem qf_pos (f : Nat) : 0 < qf f := by have := qf_b f; omega
theorem qf_1 (f : Nat) : 1 < qf f := by have := qf_b f; omega
theorem Fd_rg (f : Nat) : RgA (α := FdM f) (fun a b => ⟨fad f a.1 b.1, fad_lt a.2 b.2⟩) (fun a b => ⟨fmu f a.1 b.1, fmu_lt a.2⟩) (fun a => ⟨fsu f 0 a.1, fsu_lt (qf_pos f) a.2⟩) ⟨0, qf_pos f⟩ ⟨1, qf_1 f⟩ :=
  ⟨fun a => Subtype.ext (fad_zero a.2), fun a b => Subtype.ext fad_comm, fun a b c => Subtype.ext fad_assoc, fun a b c => Subtype.ext (fmu_assoc a.2 b.2 c.2), fun a b => Subtype.ext (fmu_comm a.2 b.2), fun a => Subtype.ext (fmu_one a.2), fun a b c => Subtype.ext (fmu_dist a.2 b.2 c.2), fun a => Subtype.ext fmu_zero, fun a => Subtype.ext (fsu_self a.2)⟩
abbrev Fd_cr (f : Nat) : Lean.Grind.CommRing (FdM f) := crOf _ _ _ _ _ (Fd_rg f)
/-! ===== functions that are polynomials, over a ring without divisors of zero ===== -/
section
variable {K : Type}
def Pl [Lean.Grind.CommRing K] : Nat → (K → K) → Prop
  | 0, f => ∀ x, f x = 0
  | n + 1, f => ∃ c g, Pl n g ∧ ∀ x, f x = c + x * g x
theorem Pl_congr [Lean.Grind.CommRing K] {n : Nat} {f g : K → K} (h : Pl n f) (e : ∀ x, g x = f x) : Pl n g := by
  cases n with
  | zero => intro x; rw [e]; exact h x
  | succ n => obtain ⟨c, k, h1, h2⟩ := h; exact ⟨c, k, h1, fun x => by rw [e, h2]⟩
theorem Pl_mono [Lean.Grind.CommRing K] : ∀ {n : Nat} {f : K → K}, Pl n f → Pl (n + 1) f
  | 0, f, h => ⟨0, fun _ => 0, fun _ => rfl, fun x => by rw [h x]; grind⟩
  | n + 1, f, ⟨c, g, h1, h2⟩ => ⟨c, g, Pl_mono h1, h2⟩
theorem Pl_le [Lean.Grind.CommRing K] {n m : Nat} {f : K → K} (h : Pl n f) (hm : n ≤ m) : Pl m f := by
  induction m with
  | zero => have : n = 0 := by omega
            subst this; exact h
  | succ m ih =>
    by_cases e : n = m + 1
    · subst e; exact h
    · exact Pl_mono (ih (by omega))
theorem Pl_add [Lean.Grind.CommRing K] : ∀ {n : Nat} {f g : K → K}, Pl n f → Pl n g → Pl n (fun x => f x + g x)
  | 0, f, g, h, k => fun x => by show f x + g x = 0; rw [h x, k x]; grind
  | n + 1, f, g, ⟨c, u, h1, h2⟩, ⟨d, v, k1, k2⟩ => ⟨c + d, fun x => u x + v x, Pl_add h1 k1, fun x => by show f x + g x = _; rw [h2, k2]; grind⟩
theorem Pl_scale [Lean.Grind.CommRing K] (a : K) : ∀ {n : Nat} {f : K → K}, Pl n f → Pl n (fun x => a * f x)
  | 0, f, h => fun x => by show a * f x = 0; rw [h x]; grind
  | n + 1, f, ⟨c, u, h1, h2⟩ => ⟨a * c, fun x => a * u x, Pl_scale a h1, fun x => by show a * f x = _; rw [h2]; grind⟩
theorem Pl_const [Lean.Grind.CommRing K] (a : K) : Pl 1 (fun _ : K => a) := ⟨a, fun _ => 0, fun _ => rfl, fun x => by grind⟩
theorem Pl_x [Lean.Grind.CommRing K] {n : Nat} {f : K → K} (h : Pl n f) : Pl (n + 1) (fun x => x * f x) := ⟨0, f, h, fun x => by grind⟩
theorem Pl_lin [Lean.Grind.CommRing K] {n : Nat} {f : K → K} (a : K) (h : Pl n f) : Pl (n + 1) (fun x => (x - a) * f x) :=
  Pl_congr (Pl_add (Pl_x h) (Pl_mono (Pl_scale (-a) h))) (fun x => by grind)
theorem Pl_sub [Lean.Grind.CommRing K] {n : Nat} {f g : K → K} (h : Pl n f) (k : Pl n g) : Pl n (fun x => f x - g x) :=
  Pl_congr (Pl_add h (Pl_scale (-1) k)) (fun x => by grind)
theorem Pl_fac [Lean.Grind.CommRing K] (a : K) : ∀ {n : Nat} {f : K → K}, Pl (n + 1) f → ∃ g, Pl n g ∧ ∀ x, f x = f a + (x - a) * g x
  | 0, f, ⟨c, u, h1, h2⟩ => ⟨fun _ => 0, fun _ => rfl, fun x => by rw [h2 x, h2 a, h1 x, h1 a]; grind⟩
  | n + 1, f, ⟨c, u, h1, h2⟩ => by
    obtain ⟨g, k1, k2⟩ := Pl_fac a h1
    refine ⟨fun x => u a + x * g x, ⟨u a, g, k1, fun x => rfl⟩, fun x => ?_⟩
    rw [h2 x, h2 a, k2 x]
    grind
/-- a polynomial with more zeros than its degree is 0 -/
theorem Pl_zero [Lean.Grind.CommRing K] (hz : ∀ a b : K, a * b = 0 → a = 0 ∨ b = 0) : ∀ {n : Nat} {f : K → K} (X : Nat → K), Pl n f → (∀ i j, i < j → j < n → X i ≠ X j) → (∀ i < n, f (X i) = 0) → ∀ x, f x = 0
  | 0, f, _, h, _, _ => h
  | n + 1, f, X, h, hd, h0 => by
    obtain ⟨g, k1, k2⟩ := Pl_fac (X n) h
    have hn := h0 n (by omega)
    have hg : ∀ x, g x = 0 := Pl_zero hz X k1 (fun i j hij hj => hd i j hij (by omega)) (fun i hi => by
      have e := k2 (X i)
      rw [h0 i (by omega), hn] at e
      rcases hz (X i - X n) (g (X i)) (by grind) with e1 | e1
      · exfalso
        apply hd i n (by omega) (by omega)
        grind
      · exact e1)
    intro x
    rw [k2 x, hn, hg x]; grind
theorem Pl_uniq [Lean.Grind.CommRing K] (hz : ∀ a b : K, a * b = 0 → a = 0 ∨ b = 0) {n : Nat} {f g : K → K} (X : Nat → K) (hf : Pl n f) (hg : Pl n g) (hd : ∀ i j, i < j → j < n → X i ≠ X j) (h : ∀ i < n, f (X i) = g (X i)) (x : K) : f x = g x := by
  have := Pl_zero hz X (Pl_sub hf hg) hd (fun i hi => by show f (X i) - g (X i) = 0; rw [h i hi]; grind) x
  have e : f x - g x = 0 := this
  grind
end

/-! ===== interpolation: Newton's form and Lagrange's ===== -/
section
variable {K : Type}
def Tb [Lean.Grind.CommRing K] (X Y : Nat → K) (dv : K → K → K) : Nat → Nat → K
  | 0, i => Y i
  | k + 1, i => if i ≤ k then Tb X Y dv k i else dv (Tb X Y dv k i - Tb X Y dv k (i - 1)) (X i - X (i - (k + 1)))
def Lc [Lean.Grind.CommRing K] (n : Nat) (c : K) (f : K → K) : Prop := Pl n (fun x => f x - c * x ^ n)
theorem Pl_pow [Lean.Grind.CommRing K] : ∀ k : Nat, Pl (k + 1) (fun x : K => x ^ k)
  | 0 => Pl_congr (Pl_const 1) (fun x => by grind)
  | k + 1 => Pl_congr (Pl_x (Pl_pow k)) (fun x => by grind)
theorem Lc_Pl [Lean.Grind.CommRing K] {n : Nat} {c : K} {f : K → K} (h : Lc n c f) : Pl (n + 1) f :=
  Pl_congr (Pl_add (Pl_mono h) (Pl_scale c (Pl_pow n))) (fun x => by grind)
theorem dv_eq [Lean.Grind.CommRing K] (hz : ∀ a b : K, a * b = 0 → a = 0 ∨ b = 0) {dv : K → K → K} (hdv : ∀ a b : K, b ≠ 0 → dv a b * b = a) {a d : K} (hd : d ≠ 0) : dv a d = a * dv 1 d := by
  have h1 := hdv a d hd
  have h2 := hdv 1 d hd
  rcases hz (dv a d - a * dv 1 d) d (by grind) with e | e
  · grind
  · exact absurd e hd
theorem nev [Lean.Grind.CommRing K] (hz : ∀ a b : K, a * b = 0 → a = 0 ∨ b = 0) {X Y : Nat → K} {dv : K → K → K} (hdv : ∀ a b : K, b ≠ 0 → dv a b * b = a) {N : Nat} (hX : ∀ i j, i < j → j < N → X i ≠ X j) : ∀ k i, k ≤ i → i < N → ∃ P : K → K, Lc k (Tb X Y dv k i) P ∧ ∀ j, i - k ≤ j → j ≤ i → P (X j) = Y j := by
  intro k
  induction k with
  | zero =>
    intro i _ hi
    refine ⟨fun _ => Y i, fun x => ?_, fun j h1 h2 => ?_⟩
    · show Y i - Y i * x ^ 0 = 0
      grind
    · have : j = i := by omega
      rw [this]
  | succ k ih =>
    intro i hk hi
    obtain ⟨P, p1, p2⟩ := ih i (by omega) hi
    obtain ⟨Q, q1, q2⟩ := ih (i - 1) (by omega) (by omega)
    have hne : X i - X (i - (k + 1)) ≠ 0 := fun e => hX (i - (k + 1)) i (by omega) hi (by grind)
    have hw := hdv 1 (X i - X (i - (k + 1))) hne
    have ht : Tb X Y dv (k + 1) i = (Tb X Y dv k i - Tb X Y dv k (i - 1)) * dv 1 (X i - X (i - (k + 1))) := by
      rw [Tb, if_neg (by omega), dv_eq hz hdv hne]
    generalize dv 1 (X i - X (i - (k + 1))) = w at hw ht
    refine ⟨fun x => ((x - X (i - (k + 1))) * P x - (x - X i) * Q x) * w, ?_, ?_⟩
    · rw [ht]
      have h1 := Pl_lin (X (i - (k + 1))) p1
      have h2 := Pl_lin (X i) q1
      have h3 := Pl_sub h1 h2
      have h4 := Pl_scale (X i * Tb X Y dv k (i - 1) - X (i - (k + 1)) * Tb X Y dv k i) (Pl_pow (K := K) k)
      have h5 := Pl_scale w (Pl_add h3 h4)
      refine Pl_congr h5 (fun x => ?_)
      grind
    · intro j h1 h2
      show ((X j - X (i - (k + 1))) * P (X j) - (X j - X i) * Q (X j)) * w = Y j
      by_cases e1 : j = i
      · subst e1
        rw [p2 j (by omega) (by omega)]
        grind
      · by_cases e2 : j = i - (k + 1)
        · subst e2
          rw [q2 (i - (k + 1)) (by omega) (by omega)]
          grind
        · rw [p2 j (by omega) (by omega), q2 j (by omega) (by omega)]
          grind
def pp [Lean.Grind.CommRing K] (X : Nat → K) (x : K) : Nat → K
  | 0 => 1
  | m + 1 => pp X x m * (x - X m)
def Nv [Lean.Grind.CommRing K] (X c : Nat → K) (x : K) : Nat → K
  | 0 => 0
  | m + 1 => Nv X c x m + c m * pp X x m
theorem pp_lc [Lean.Grind.CommRing K] (X : Nat → K) : ∀ m, Lc m 1 (fun x => pp X x m)
  | 0 => fun x => by show (1 : K) - 1 * x ^ 0 = 0; grind
  | m + 1 => by
    have h1 := Pl_lin (X m) (pp_lc X m)
    have h2 := Pl_scale (-(X m)) (Pl_pow (K := K) m)
    refine Pl_congr (Pl_add h1 h2) (fun x => ?_)
    show pp X x m * (x - X m) - 1 * x ^ (m + 1) = _
    grind
theorem pp_zero [Lean.Grind.CommRing K] (X : Nat → K) (j : Nat) : ∀ m, j < m → pp X (X j) m = 0
  | 0, h => by omega
  | m + 1, h => by
    unfold pp
    by_cases e : j = m
    · subst e; grind
    · rw [pp_zero X j m (by omega)]; grind
theorem Nv_Pl [Lean.Grind.CommRing K] (X c : Nat → K) : ∀ m, Pl m (fun x => Nv X c x m)
  | 0 => fun x => rfl
  | m + 1 => Pl_add (Pl_mono (Nv_Pl X c m)) (Pl_scale (c m) (Lc_Pl (pp_lc X m)))
theorem Nv_val [Lean.Grind.CommRing K] (hz : ∀ a b : K, a * b = 0 → a = 0 ∨ b = 0) {X Y : Nat → K} {dv : K → K → K} (hdv : ∀ a b : K, b ≠ 0 → dv a b * b = a) {N : Nat} (hX : ∀ i j, i < j → j < N → X i ≠ X j) {c : Nat → K} (hc : ∀ k < N, c k = Tb X Y dv k k) : ∀ m, m ≤ N → ∀ j < m, Nv X c (X j) m = Y j := by
  intro m
  induction m with
  | zero => intro _ j hj; omega
  | succ m ih =>
    intro hm
    obtain ⟨P, p1, p2⟩ := nev hz (Y := Y) hdv hX m m (Nat.le_refl _) (by omega)
    -- P without its leading part is the form before
    have h1 : Pl m (fun x => P x - Tb X Y dv m m * pp X x m) := by
      have a := Pl_sub p1 (Pl_scale (Tb X Y dv m m) (pp_lc X m))
      exact Pl_congr a (fun x => by grind)
    have h2 : ∀ x, P x - Tb X Y dv m m * pp X x m = Nv X c x m := Pl_uniq hz X h1 (Nv_Pl X c m) (fun i j a b => hX i j a (by omega)) (fun i hi => by
      rw [p2 i (by omega) (by omega), pp_zero X i m hi, ih (by omega) i hi]; grind)
    intro j hj
    show Nv X c (X j) m + c m * pp X (X j) m = Y j
    rw [← h2 (X j), hc m (by omega), p2 j (by omega) (by omega)]
    grind
/-- Horner's way through Newton's form -/
def Hn [Lean.Grind.CommRing K] (X c : Nat → K) (x : K) : Nat → K → K
  | 0, a => a
  | m + 1, a => Hn X c x m (a * (x - X m) + c m)
theorem Hn_eq [Lean.Grind.CommRing K] (X c : Nat → K) (x : K) : ∀ m a, Hn X c x m a = a * pp X x m + Nv X c x m
  | 0, a => by show a = a * 1 + 0; grind
  | m + 1, a => by
    show Hn X c x m _ = a * (pp X x m * (x - X m)) + (Nv X c x m + c m * pp X x m)
    rw [Hn_eq X c x m]; grind
/-- Lagrange's products -/
def pr [Lean.Grind.CommRing K] (X : Nat → K) (i : Nat) (x : K) : Nat → K
  | 0 => 1
  | m + 1 => if m = i then pr X i x m else pr X i x m * (x - X m)
theorem pr_Pl [Lean.Grind.CommRing K] (X : Nat → K) (i : Nat) : ∀ m, Pl (m + 1) (fun x => pr X i x m) ∧ (i < m → Pl m (fun x => pr X i x m))
  | 0 => ⟨Pl_const 1, fun h => by omega⟩
  | m + 1 => by
    obtain ⟨h1, h2⟩ := pr_Pl X i m
    by_cases e : m = i
    · have e1 : ∀ x, pr X i x (m + 1) = pr X i x m := fun x => by rw [pr, if_pos e]
      exact ⟨Pl_congr (Pl_mono h1) e1, fun _ => Pl_congr h1 e1⟩
    · have e1 : ∀ x, pr X i x (m + 1) = (x - X m) * pr X i x m := fun x => by rw [pr, if_neg e]; grind
      exact ⟨Pl_congr (Pl_lin (X m) h1) e1, fun h => Pl_congr (Pl_lin (X m) (h2 (by omega))) e1⟩
theorem pr_zero [Lean.Grind.CommRing K] (X : Nat → K) (i j : Nat) (hij : j ≠ i) : ∀ m, j < m → pr X i (X j) m = 0
  | 0, h => by omega
  | m + 1, h => by
    unfold pr
    by_cases e : m = i
    · rw [if_pos e]; exact pr_zero X i j hij m (by omega)
    · rw [if_neg e]
      by_cases e2 : j = m
      · subst e2; grind
      · rw [pr_zero X i j hij m (by omega)]; grind
theorem one_ne [Lean.Grind.CommRing K] {a : K} (h : a ≠ 0) : (1 : K) ≠ 0 := fun e => h (by
  have : a = a * 1 := by grind
  rw [this, e]; grind)
theorem pr_ne [Lean.Grind.CommRing K] (hz : ∀ a b : K, a * b = 0 → a = 0 ∨ b = 0) (h1 : (1 : K) ≠ 0) {X : Nat → K} {N : Nat} (hX : ∀ i j, i < j → j < N → X i ≠ X j) {i : Nat} (hi : i < N) : ∀ m, m ≤ N → pr X i (X i) m ≠ 0
  | 0, _ => h1
  | m + 1, hm => by
    have ih := pr_ne hz h1 hX hi m (by omega)
    unfold pr
    by_cases e : m = i
    · rw [if_pos e]; exact ih
    · rw [if_neg e]
      intro e2
      rcases hz _ _ e2 with e3 | e3
      · exact ih e3
      · have : X i = X m := by grind
        by_cases e4 : i < m
        · exact hX i m e4 (by omega) this
        · exact hX m i (by omega) hi this.symm
def Lv [Lean.Grind.CommRing K] (X Y : Nat → K) (iv : K → K) (N : Nat) (x : K) : Nat → K
  | 0 => 0
  | i + 1 => Lv X Y iv N x i + pr X i x N * iv (pr X i (X i) N) * Y i
theorem Lv_Pl [Lean.Grind.CommRing K] (X Y : Nat → K) (iv : K → K) (N : Nat) : ∀ m, m ≤ N → Pl N (fun x => Lv X Y iv N x m)
  | 0, _ => Pl_le (n := 0) (fun x => rfl) (by omega)
  | m + 1, h => Pl_congr (Pl_add (Lv_Pl X Y iv N m (by omega)) (Pl_scale (iv (pr X m (X m) N) * Y m) ((pr_Pl X m N).2 (by omega)))) (fun x => by
    show Lv X Y iv N x m + pr X m x N * iv (pr X m (X m) N) * Y m = _
    grind)
theorem Lv_val [Lean.Grind.CommRing K] (hz : ∀ a b : K, a * b = 0 → a = 0 ∨ b = 0) (h1 : (1 : K) ≠ 0) {X Y : Nat → K} {iv : K → K} (hiv : ∀ a : K, a ≠ 0 → a * iv a = 1) {N : Nat} (hX : ∀ i j, i < j → j < N → X i ≠ X j) {j : Nat} (hj : j < N) : ∀ m, m ≤ N → Lv X Y iv N (X j) m = if j < m then Y j else 0
  | 0, _ => by rw [if_neg (by omega)]; rfl
  | m + 1, h => by
    have ih := Lv_val hz h1 (Y := Y) hiv hX hj m (by omega)
    unfold Lv
    rw [ih]
    by_cases e : m = j
    · subst e
      rw [if_neg (by omega), if_pos (by omega)]
      have := hiv _ (pr_ne hz h1 hX hj N (Nat.le_refl _))
      grind
    · rw [pr_zero X m j (by omega) N hj]
      by_cases e2 : j < m
      · rw [if_pos e2, if_pos (by omega)]; grind
      · rw [if_neg e2, if_neg (by omega)]; grind
/-- the two forms have one value -/
theorem Lv_Nv [Lean.Grind.CommRing K] (hz : ∀ a b : K, a * b = 0 → a = 0 ∨ b = 0) (h1 : (1 : K) ≠ 0) {X Y : Nat → K} {dv : K → K → K} (hdv : ∀ a b : K, b ≠ 0 → dv a b * b = a) {iv : K → K} (hiv : ∀ a : K, a ≠ 0 → a * iv a = 1) {N : Nat} (hX : ∀ i j, i < j → j < N → X i ≠ X j) {c : Nat → K} (hc : ∀ k < N, c k = Tb X Y dv k k) (x : K) : Lv X Y iv N x N = Hn X c x N 0 := by
  rw [Hn_eq]
  have := Pl_uniq hz X (Lv_Pl X Y iv N N (Nat.le_refl _)) (Nv_Pl X c N) hX (fun i hi => by
    rw [Nv_val hz hdv hX hc N (Nat.le_refl _) i hi, Lv_val hz h1 hiv hX hi N (Nat.le_refl _), if_pos hi]) x
  rw [this]; grind
end

/-! ===== the fields of the code ===== -/
theorem qf_qg {γ : Nat} (hγ : γ < 2) : qf (1 + γ) = qg γ := by
  match γ, hγ with | 0, _ => rfl | 1, _ => rfl
theorem f_split {f : Nat} (hf : f < 3) : f = 0 ∨ ∃ γ, γ < 2 ∧ f = 1 + γ := by
  match f, hf with
  | 0, _ => exact Or.inl rfl
  | 1, _ => exact Or.inr ⟨0, by omega, rfl⟩
  | 2, _ => exact Or.inr ⟨1, by omega, rfl⟩
theorem gbit : ∀ b < 256, ∀ i < 8, ((I b >>> (I i &&& 31)) &&& 1 = 1 ↔ (b / 2 ^ i) % 2 = 1) := by decide +kernel
theorem gxt_c : ∀ x < 256, (if I x <<< (1 &&& 31) ≤ 255 then some (I x <<< (1 &&& 31)) else some ((I x <<< (1 &&& 31)) ^^^ 283)) = some (I (xt x)) := by decide +kernel
theorem gxt_m : ∀ x < 256, (if (I x &&& 128) = 0 then some (I x <<< (1 &&& 31)) else some ((I x <<< (1 &&& 31)) ^^^ 283)) = some (I (xt x)) := by decide +kernel
theorem bmul_loop {b : Nat} (hb : b < 256) : ∀ (d i n acc x : Nat), i + d = 8 → d < n → acc < 256 → x < 256 → ∃ y z, L_Byte_times_8 (I b) n (I acc) (I x) (I i) = some (I (acc ^^^ gl d x (b / 2 ^ i)), y, z) := by
  intro d
  induction d with
  | zero =>
    intro i n acc x hi hn ha hx
    match n, hn with
    | n + 1, _ =>
      rw [L_Byte_times_8, if_pos (show 8 ≤ I i by rw [I8, I_le (by omega) (by omega)]; omega)]
      exact ⟨I x, I i, by simp [gl]⟩
  | succ d ih =>
    intro i n acc x hi hn ha hx
    match n, hn with
    | n + 1, hn =>
      have h1 := gbit b hb i (by omega)
      have h2 := gxt_c x hx
      have hdiv : b / 2 ^ i / 2 = b / 2 ^ (i + 1) := by rw [Nat.div_div_eq_div_mul, Nat.pow_succ]
      rw [L_Byte_times_8, if_neg (show ¬ 8 ≤ I i by rw [I8, I_le (by omega) (by omega)]; omega)]
      simp only [jlet]
      by_cases hb1 : (b / 2 ^ i) % 2 = 1
      · rw [if_neg (fun e => e (h1.mpr hb1)), Option.bind_some, h2, Option.bind_some, I_xor, I1, I_add]
        obtain ⟨y, z, h⟩ := ih (i + 1) n (acc ^^^ x) (xt x) (by omega) (by omega) (xor8 ha hx) (xt_lt hx)
        refine ⟨y, z, ?_⟩
        rw [h, gl, if_pos hb1, hdiv, Nat.xor_assoc]
      · rw [if_pos (fun e => hb1 (h1.mp e)), Option.bind_some, h2, Option.bind_some, I1, I_add]
        obtain ⟨y, z, h⟩ := ih (i + 1) n acc (xt x) (by omega) (by omega) ha (xt_lt hx)
        refine ⟨y, z, ?_⟩
        rw [h, gl, if_neg hb1, hdiv, Nat.zero_xor]
theorem bmul_spec {a b : Nat} (ha : a < 256) (hb : b < 256) : f_Byte_times (I a) (I b) = some (I (gm a b)) := by
  unfold f_Byte_times
  obtain ⟨y, z, h⟩ := bmul_loop hb 8 0 jF 0 a (by omega) (by unfold jF; omega) (by omega) ha
  rw [show L_Byte_times_8 (I b) jF 0 (I a) 0 = _ from h, Option.bind_some]
  simp only
  rw [Nat.pow_zero, Nat.div_one, Nat.zero_xor]; rfl
theorem gl_xt : ∀ (n a b : Nat), a < 256 → gl n (xt a) b = xt (gl n a b)
  | 0, a, b, _ => by simp [gl, xt]
  | n + 1, a, b, h => by
    rw [gl, gl, xt_add (by split <;> omega) (gl_lt n _ _ (xt_lt h)), gl_xt n (xt a) (b / 2) (xt_lt h)]
    congr 1
    split
    · rfl
    · rfl
theorem mmul_loop {a b : Nat} (ha : a < 256) (hb : b < 256) : ∀ (i n acc : Nat), i ≤ 8 → i < n → acc = gl (8 - i) a (b / 2 ^ i) → ∃ z, L_Mod_times_19 (I a) (I b) n (I acc) (I i - 1) = some (I (gm a b), z) := by
  intro i
  induction i with
  | zero =>
    intro n acc hi hn he
    match n, hn with
    | n + 1, _ =>
      rw [L_Mod_times_19, if_pos (show I 0 - 1 < 0 by decide), he]
      exact ⟨_, by rw [Nat.pow_zero, Nat.div_one]; rfl⟩
  | succ i ih =>
    intro n acc hi hn he
    match n, hn with
    | n + 1, hn =>
      have hacc : acc < 256 := by rw [he]; exact gl_lt _ _ _ ha
      have h1 := gbit b hb i (by omega)
      have h2 := gxt_m acc hacc
      have hdiv : b / 2 ^ i / 2 = b / 2 ^ (i + 1) := by rw [Nat.div_div_eq_div_mul, Nat.pow_succ]
      have hg : gl (8 - i) a (b / 2 ^ i) = (if (b / 2 ^ i) % 2 = 1 then a else 0) ^^^ xt acc := by
        rw [show 8 - i = (8 - (i + 1)) + 1 from by omega, gl, hdiv, gl_xt _ _ _ ha, he]
      rw [L_Mod_times_19, I_m2, if_neg (show ¬ I i < 0 by rw [I0, I_lt (by omega) (by omega)]; omega), h2, Option.bind_some]
      simp only [jlet, I_m3]
      by_cases hb1 : (b / 2 ^ i) % 2 = 1
      · rw [if_neg (fun e => e (h1.mpr hb1)), Option.bind_some, I_xor]
        exact ih n _ (by omega) (by omega) (by rw [hg, if_pos hb1, Nat.xor_comm])
      · rw [if_pos (fun e => hb1 (h1.mp e)), Option.bind_some]
        exact ih n _ (by omega) (by omega) (by rw [hg, if_neg hb1, Nat.zero_xor])
theorem Fp_spec {f a b : Nat} (hf : f < 3) (ha : a < qf f) (hb : b < qf f) : F_plus f (I a) (I b) = some (I (fad f a b)) := by
  rcases f_split hf with rfl | ⟨γ, hγ, rfl⟩
  · show some (I a ^^^ I b) = _
    rw [I_xor]; rfl
  · rw [qf_qg hγ] at ha hb
    have hq := qg_b γ
    rw [F_pl hγ (by omega) (by omega)]
    unfold fad
    rw [if_neg (by omega), qf_qg hγ]
theorem Fm_spec {f a b : Nat} (hf : f < 3) (ha : a < qf f) (hb : b < qf f) : F_minus f (I a) (I b) = some (I (fsu f a b)) := by
  rcases f_split hf with rfl | ⟨γ, hγ, rfl⟩
  · show some (I a ^^^ I b) = _
    rw [I_xor]; rfl
  · rw [qf_qg hγ] at ha hb
    have hq := qg_b γ
    rw [F_mi hγ (by omega) (by omega)]
    unfold fsu
    rw [if_neg (by omega), qf_qg hγ]
theorem Ft_spec {f a b : Nat} (hf : f < 3) (ha : a < qf f) (hb : b < qf f) : F_times f (I a) (I b) = some (I (fmu f a b)) := by
  rcases f_split hf with rfl | ⟨γ, hγ, rfl⟩
  · show f_Byte_times (I a) (I b) = _
    rw [bmul_spec ha hb]; rfl
  · rw [qf_qg hγ] at ha hb
    have hq := qg_b γ
    rw [F_tm hγ (by omega) (by omega)]
    unfold fmu
    rw [if_neg (by omega), qf_qg hγ]
theorem inv_loop {f : Nat} (hf : f < 3) : ∀ (n k x y e : Nat), e < 2 ^ n → n ≤ 10 → n < k → x < qf f → y < qf f → ∃ u v, L_Field_inverse_12 f k (I x) (I y) (I e) = some (I (ip f n x y e), u, v) := by
  intro n
  induction n with
  | zero =>
    intro k x y e he _ hk hx hy
    match k, hk with
    | k + 1, _ =>
      have : e = 0 := by simp at he; exact he
      subst this
      rw [L_Field_inverse_12, if_pos (by decide)]
      exact ⟨_, _, rfl⟩
  | succ n ih =>
    intro k x y e he hn hk hx hy
    match k, hk with
    | k + 1, hk =>
      have he10 : e < 1024 := by
        have : 2 ^ (n + 1) ≤ 2 ^ 10 := Nat.pow_le_pow_right (by decide) hn
        omega
      rw [L_Field_inverse_12, ip]
      by_cases h0 : e = 0
      · subst h0
        rw [if_pos (by decide), if_pos rfl]
        exact ⟨_, _, rfl⟩
      · rw [if_neg (show ¬ I e ≤ 0 by rw [I0, I_le (by omega) (by omega)]; omega), if_neg h0, Ft_spec hf hx hy, Ft_spec hf hy hy, P_half e he10]
        simp only [jlet, Option.bind_some]
        rw [Nat.pow_succ] at he
        by_cases h1 : e % 2 = 1
        · rw [if_neg (fun h => h ((P_odd e he10).mpr h1)), if_pos h1]
          exact ih k _ _ _ (by omega) (by omega) (by omega) (fmu_lt hx) (fmu_lt hy)
        · rw [if_pos (fun h => h1 ((P_odd e he10).mp h)), if_neg h1]
          exact ih k _ _ _ (by omega) (by omega) (by omega) hx (fmu_lt hy)
theorem Fi_spec {f a : Nat} (hf : f < 3) (ha : a < qf f) : f_Field_inverse f (I a) = some (I (fiv f a)) := by
  have hq := qf_b f
  unfold f_Field_inverse
  simp only [jlet]
  rw [fsz_f hf, I2, I_sub (by omega)]
  obtain ⟨u, v, h⟩ := inv_loop hf 10 jF 1 a (qf f - 2) (by omega) (by omega) (by unfold jF; omega) (by omega) ha
  rw [show L_Field_inverse_12 f jF 1 (I a) (I (qf f - 2)) = _ from h]; rfl
theorem Mo_spec {f : Nat} (hf : f < 3) : f_Mod_order (I f) = some (I (qf f)) := by
  match f, hf with | 0, _ => rfl | 1, _ => rfl | 2, _ => rfl
theorem Mp_spec {f a b : Nat} (hf : f < 3) (ha : a < qf f) (hb : b < qf f) : f_Mod_plus (I f) (I a) (I b) = some (I (fad f a b)) := by
  have hq := qf_b f
  unfold f_Mod_plus fad
  rw [Mo_spec hf, Option.bind_some]
  by_cases h : f = 0
  · subst h
    rw [if_neg (show ¬ ¬ I 0 = 0 from fun e => e rfl), I_xor]; rfl
  · rw [if_pos (show ¬ I f = 0 by rw [I0, I_eq (by omega) (by omega)]; exact h), if_pos (show ¬ I (qf f) = 0 by rw [I0, I_eq (by omega) (by omega)]; omega), I_add, I_rem (by omega) (by omega), if_neg h]; rfl
theorem Ml_spec {f a b : Nat} (hf : f < 3) (ha : a < qf f) (hb : b < qf f) : f_Mod_less (I f) (I a) (I b) = some (I (fsu f a b)) := by
  have hq := qf_b f
  unfold f_Mod_less fsu
  rw [Mo_spec hf]
  simp only [Option.bind_some]
  by_cases h : f = 0
  · subst h
    rw [if_neg (show ¬ ¬ I 0 = 0 from fun e => e rfl), I_xor]; rfl
  · rw [if_pos (show ¬ I f = 0 by rw [I0, I_eq (by omega) (by omega)]; exact h), if_pos (show ¬ I (qf f) = 0 by rw [I0, I_eq (by omega) (by omega)]; omega), I_subA (by omega), I_rem (by omega) (by omega), if_neg h]; rfl
theorem Mt_spec {f a b : Nat} (hf : f < 3) (ha : a < qf f) (hb : b < qf f) : f_Mod_times (I f) (I a) (I b) = some (I (fmu f a b)) := by
  have hq := qf_b f
  unfold f_Mod_times fmu
  rw [Mo_spec hf, Option.bind_some]
  by_cases h : f = 0
  · subst h
    rw [if_pos (show I 0 ≤ 0 by decide), if_pos rfl]
    obtain ⟨z, e⟩ := mmul_loop (a := a) (b := b) ha hb 8 jF 0 (by omega) (by unfold jF; omega) (by simp [gl])
    rw [show L_Mod_times_19 (I a) (I b) jF 0 7 = _ from e]; rfl
  · have hab : a * b < 1019 * 1019 := Nat.mul_lt_mul_of_lt_of_lt (by omega) (by omega)
    rw [if_neg (show ¬ I f ≤ 0 by rw [I0, I_le (by omega) (by omega)]; omega), if_pos (show ¬ I (qf f) = 0 by rw [I0, I_eq (by omega) (by omega)]; omega), I_mul, I_rem (by omega) (by omega), if_neg h]
theorem fq_un {f a b z : Nat} (hf : f < 3) (ha : a < qf f) (hb : b < qf f) (h0 : b ≠ 0) (hz : z < qf f) (h : fmu f z b = a) : z = fmu f a (fiv f b) := by
  rw [← h, fmu_assoc hz hb (fiv_lt hb), fiv_ok hf hb h0, fmu_one hz]
theorem fq_ok {f a b : Nat} (hf : f < 3) (ha : a < qf f) (hb : b < qf f) (h0 : b ≠ 0) : fmu f (fmu f a (fiv f b)) b = a := by
  rw [fmu_assoc ha (fiv_lt hb) hb, fmu_comm (fiv_lt hb) hb, fiv_ok hf hb h0, fmu_one ha]
theorem over_loop {f a b : Nat} (hf : f < 3) (ha : a < qf f) (hb : b < qf f) (h0 : b ≠ 0) : ∀ (d i n : Nat), i + d = fmu f a (fiv f b) → d < n → L_Mod_over_2 (I f) (I a) (I b) n (I i) = some (I (fmu f a (fiv f b))) := by
  have hq := qf_b f
  have hl : fmu f a (fiv f b) < qf f := fmu_lt ha
  intro d
  induction d with
  | zero =>
    intro i n hi hn
    match n, hn with
    | n + 1, _ =>
      have e : i = fmu f a (fiv f b) := by omega
      subst e
      rw [L_Mod_over_2, Mt_spec hf hl hb, Option.bind_some, fq_ok hf ha hb h0, if_pos rfl]
  | succ d ih =>
    intro i n hi hn
    match n, hn with
    | n + 1, hn =>
      have hil : i < qf f := by omega
      have hml : fmu f i b < qf f := fmu_lt hil
      rw [L_Mod_over_2, Mt_spec hf hil hb, Option.bind_some, if_neg (fun e => by
        have e2 : fmu f i b = a := (I_eq (by omega) (by omega)).mp e
        have := fq_un hf ha hb h0 hil e2
        omega)]
      simp only [jlet]
      rw [I1, I_add]
      exact ih (i + 1) n (by omega) (by omega)
theorem Mv_spec {f a b : Nat} (hf : f < 3) (ha : a < qf f) (hb : b < qf f) (h0 : b ≠ 0) : f_Mod_over (I f) (I a) (I b) = some (I (fmu f a (fiv f b))) := by
  have hq := qf_b f
  have hl : fmu f a (fiv f b) < qf f := fmu_lt ha
  unfold f_Mod_over
  rw [show L_Mod_over_2 (I f) (I a) (I b) jF 0 = _ from over_loop hf ha hb h0 (fmu f a (fiv f b)) 0 jF (by omega) (by unfold jF; omega)]; rfl
/-! the type's operations are those -/
def tF (f a : Nat) : FdM f := ⟨a % qf f, Nat.mod_lt _ (qf_pos f)⟩
theorem tF_1 {f a : Nat} (h : a < qf f) : (tF f a).1 = a := Nat.mod_eq_of_lt h
theorem Fd_hz {f : Nat} (hf : f < 3) : letI := Fd_cr f; ∀ a b : FdM f, a * b = 0 → a = 0 ∨ b = 0 := by
  intro a b h
  by_cases ha : a.1 = 0
  · exact Or.inl (Subtype.ext ha)
  · right
    have h1 : fmu f a.1 b.1 = 0 := congrArg Subtype.val h
    apply Subtype.ext
    have h2 : fmu f (fiv f a.1) (fmu f a.1 b.1) = b.1 := by
      rw [← fmu_assoc (fiv_lt a.2) a.2 b.2, fmu_comm (fiv_lt a.2) a.2, fiv_ok hf a.2 ha, fmu_comm (qf_1 f) b.2, fmu_one b.2]
    rw [h1, fmu_zero] at h2
    exact h2.symm
theorem Fd_ne {f : Nat} {a b : FdM f} (h : a.1 ≠ b.1) : a ≠ b := fun e => h (congrArg Subtype.val e)
theorem Fd_one (f : Nat) : letI := Fd_cr f; (1 : FdM f).1 = 1 := by
  show fad f 0 1 = 1
  rw [fad_comm, fad_zero (qf_1 f)]
theorem Fd_h1 (f : Nat) : letI := Fd_cr f; (1 : FdM f) ≠ 0 := by
  intro e
  have := congrArg Subtype.val e
  rw [Fd_one f] at this
  exact absurd (show (1 : Nat) = 0 from this) (by decide)
theorem Fd_sub (f : Nat) : letI := Fd_cr f; ∀ a b : FdM f, (a - b).1 = fsu f a.1 b.1 := by
  intro a b
  exact (fsu_eq a.2 b.2).symm
def Fd_iv (f : Nat) (a : FdM f) : FdM f := ⟨fiv f a.1, fiv_lt a.2⟩
theorem Fd_hiv {f : Nat} (hf : f < 3) : letI := Fd_cr f; ∀ a : FdM f, a ≠ 0 → a * Fd_iv f a = 1 := by
  intro a h
  apply Subtype.ext
  rw [Fd_one f]
  exact fiv_ok hf a.2 (fun e => h (Subtype.ext e))
def Fd_dv (f : Nat) (a b : FdM f) : FdM f := ⟨fmu f a.1 (fiv f b.1), fmu_lt a.2⟩
theorem Fd_hdv {f : Nat} (hf : f < 3) : letI := Fd_cr f; ∀ a b : FdM f, b ≠ 0 → Fd_dv f a b * b = a := by
  intro a b h
  exact Subtype.ext (fq_ok hf a.2 b.2 (fun e => h (Subtype.ext e)))

/-! ===== degree and combine ===== -/
/-- points of the code: abscissae and ordinates as elements -/
def Xf (f : Nat) (x : Nat → Int32) (i : Nat) : FdM f := tF f (U (x i))
theorem Xf_1 {f : Nat} {x : Nat → Int32} {i : Nat} (h : OK (qf f) (x i)) : (Xf f x i).1 = U (x i) := tF_1 h.2
theorem Xf_I {f : Nat} {x : Nat → Int32} {i : Nat} (h : OK (qf f) (x i)) : x i = I (Xf f x i).1 := by rw [Xf_1 h]; exact h.1
/-- the table of differences, as numbers -/
def TN (f : Nat) (x y : Nat → Int32) (k i : Nat) : Nat := letI := Fd_cr f; (Tb (Xf f x) (Xf f y) (Fd_dv f) k i).1
theorem TN_lt (f : Nat) (x y : Nat → Int32) (k i : Nat) : TN f x y k i < qf f := letI := Fd_cr f; (Tb (Xf f x) (Xf f y) (Fd_dv f) k i).2
theorem TN_le {f : Nat} {x y : Nat → Int32} {k i : Nat} (h : i ≤ k) : TN f x y (k + 1) i = TN f x y k i := by
  letI := Fd_cr f
  unfold TN; rw [Tb, if_pos h]
theorem TN_s {f : Nat} {x y : Nat → Int32} {k i : Nat} (h : ¬ i ≤ k) : TN f x y (k + 1) i = fmu f (fsu f (TN f x y k i) (TN f x y k (i - 1))) (fiv f (fsu f (Xf f x i).1 (Xf f x (i - (k + 1))).1)) := by
  letI := Fd_cr f
  unfold TN
  rw [Tb, if_neg h]
  show fmu f (Tb (Xf f x) (Xf f y) (Fd_dv f) k i - Tb (Xf f x) (Xf f y) (Fd_dv f) k (i - 1) : FdM f).1 (fiv f (Xf f x i - Xf f x (i - (k + 1)) : FdM f).1) = _
  rw [Fd_sub f, Fd_sub f]
theorem TN_dg {f : Nat} {x y : Nat → Int32} {i : Nat} : ∀ d, TN f x y (i + d) i = TN f x y i i
  | 0 => rfl
  | d + 1 => by rw [← Nat.add_assoc, TN_le (by omega), TN_dg d]
theorem TN_0 {f : Nat} {x y : Nat → Int32} {i : Nat} (h : OK (qf f) (y i)) : TN f x y 0 i = U (y i) := Xf_1 h
/-- the points are good -/
def Pt (f c : Nat) (x y : Nat → Int32) : Prop := f < 3 ∧ c ≤ 12 ∧ (∀ j < c, OK (qf f) (x j) ∧ OK (qf f) (y j)) ∧ (∀ i j, i < j → j < c → x i ≠ x j)
theorem Pt_ne {f c : Nat} {x y : Nat → Int32} (h : Pt f c x y) {i j : Nat} (hi : i < c) (hj : j < c) (hij : i ≠ j) : fsu f (Xf f x i).1 (Xf f x j).1 ≠ 0 ∧ Xf f x i ≠ Xf f x j := by
  obtain ⟨hf, hc, h1, h2⟩ := h
  have hne : Xf f x i ≠ Xf f x j := fun e => by
    have e1 : x i = x j := by rw [Xf_I (h1 i hi).1, Xf_I (h1 j hj).1, e]
    rcases Nat.lt_or_ge i j with h | h
    · exact h2 i j h hj e1
    · exact h2 j i (by omega) hi e1.symm
  refine ⟨fun e => hne ?_, hne⟩
  letI := Fd_cr f
  have e2 : Xf f x i - Xf f x j = 0 := Subtype.ext (by rw [Fd_sub f]; exact e)
  grind
theorem cd_inner {s : jU} {f c k k0 : Nat} (hP : Pt f c (s (30 + 4 * k0) 0) (s (31 + 4 * k0) 0)) (h51 : s (51 + k0) 0 0 = I f) : ∀ (d n i : Nat) (s1 : jU), i = k + d → d < n → i < c → FrC [32 + 4 * k0] s s1 → (∀ j < c, s1 (32 + 4 * k0) 0 j = I (if i < j then TN f (s (30 + 4 * k0) 0) (s (31 + 4 * k0) 0) (k + 1) j else TN f (s (30 + 4 * k0) 0) (s (31 + 4 * k0) 0) k j)) → ∃ z s', L_Points_countCoefficients_34 k0 (I (k + 1)) n (I i) s1 = some (z, s') ∧ FrC [32 + 4 * k0] s s' ∧ (∀ j < c, s' (32 + 4 * k0) 0 j = I (TN f (s (30 + 4 * k0) 0) (s (31 + 4 * k0) 0) (k + 1) j)) := by
  obtain ⟨hf, hc, hP1, hP2⟩ := id hP
  have hq := qf_b f
  intro d
  induction d with
  | zero =>
    intro n i s1 hi hn hic hF hT
    match n, hn with
    | n + 1, _ =>
      rw [L_Points_countCoefficients_34, if_pos (show I i < I (k + 1) by rw [I_lt (by omega) (by omega)]; omega)]
      refine ⟨_, _, rfl, hF, fun j hj => ?_⟩
      rw [hT j hj]
      by_cases e : i < j
      · rw [if_pos e]
      · rw [if_neg e, TN_le (by omega)]
  | succ d ih =>
    intro n i s1 hi hn hic hF hT
    match n, hn with
    | n + 1, hn =>
      have h12 : jin (I i) 12 := by rw [I_jin (by omega)]; omega
      have ei1 : I i - 1 = I (i - 1) := by rw [I1, I_sub (by omega)]
      have h12' : jin (I (i - 1)) 12 := by rw [I_jin (by omega)]; omega
      have eik : I i - I (k + 1) = I (i - (k + 1)) := I_sub (by omega)
      have h12k : jin (I (i - (k + 1))) 12 := by rw [I_jin (by omega)]; omega
      have t1 : s1 (32 + 4 * k0) 0 i = I (TN f (s (30 + 4 * k0) 0) (s (31 + 4 * k0) 0) k i) := by rw [hT i hic, if_neg (by omega)]
      have t2 : s1 (32 + 4 * k0) 0 (i - 1) = I (TN f (s (30 + 4 * k0) 0) (s (31 + 4 * k0) 0) k (i - 1)) := by rw [hT (i - 1) (by omega), if_neg (by omega)]
      have x1 : s1 (30 + 4 * k0) 0 i = I (Xf f (s (30 + 4 * k0) 0) i).1 := by rw [hF (30 + 4 * k0) (by simp)]; exact Xf_I (hP1 i hic).1
      have x2 : s1 (30 + 4 * k0) 0 (i - (k + 1)) = I (Xf f (s (30 + 4 * k0) 0) (i - (k + 1))).1 := by rw [hF (30 + 4 * k0) (by simp)]; exact Xf_I (hP1 _ (by omega)).1
      have f1 : s1 (51 + k0) 0 0 = I f := by
        rw [hF (51 + k0) (by simp; omega)]; exact h51
      have hl1 := TN_lt f (s (30 + 4 * k0) 0) (s (31 + 4 * k0) 0) k i
      have hl2 := TN_lt f (s (30 + 4 * k0) 0) (s (31 + 4 * k0) 0) k (i - 1)
      have hl3 : fsu f (Xf f (s (30 + 4 * k0) 0) i).1 (Xf f (s (30 + 4 * k0) 0) (i - (k + 1))).1 < qf f := fsu_lt (Xf f _ i).2 (Xf f _ _).2
      have hl4 : fsu f (TN f (s (30 + 4 * k0) 0) (s (31 + 4 * k0) 0) k i) (TN f (s (30 + 4 * k0) 0) (s (31 + 4 * k0) 0) k (i - 1)) < qf f := fsu_lt hl1 hl2
      rw [L_Points_countCoefficients_34, if_neg (show ¬ I i < I (k + 1) by rw [I_lt (by omega) (by omega)]; omega), if_pos h12, ei1, if_pos h12', I_cl (show i < 2147483648 by omega), I_cl (show i - 1 < 2147483648 by omega), f1, fnum_f hf, t1, t2, Fm_spec hf hl1 hl2, Option.bind_some, if_pos h12, eik, if_pos h12k, I_cl (show i - (k + 1) < 2147483648 by omega), x1, x2, Fm_spec hf (Xf f _ i).2 (Xf f _ _).2, Option.bind_some, Fi_spec hf hl3, Option.bind_some, Ft_spec hf hl4 (fiv_lt hl3), Option.bind_some, if_pos h12, ← TN_s (by omega)]
      simp only [jlet]
      rw [I_m3, ei1]
      refine ih n (i - 1) _ (by omega) (by omega) (by omega) (hF.tr (FrC.up (l := [32 + 4 * k0]) (by simp)) (fun _ h => h) (fun _ h => h)) (fun j hj => ?_)
      rw [ups_eq]
      by_cases e : j = i
      · subst e; rw [upd_eq, if_pos (by omega)]
      · rw [upd_ne e, hT j hj]
        by_cases e2 : i < j
        · rw [if_pos e2, if_pos (by omega)]
        · rw [if_neg e2, if_neg (by omega)]
theorem cd_outer {s : jU} {f c k0 : Nat} (hP : Pt f c (s (30 + 4 * k0) 0) (s (31 + 4 * k0) 0)) (h51 : s (51 + k0) 0 0 = I f) (h33 : s (33 + 4 * k0) 0 0 = I c) : ∀ (d k n : Nat) (s1 : jU), k + d = c ∨ (c ≤ k + 1 ∧ d = 0) → d < n → k < 100 → FrC [32 + 4 * k0] s s1 → (∀ j < c, s1 (32 + 4 * k0) 0 j = I (TN f (s (30 + 4 * k0) 0) (s (31 + 4 * k0) 0) k j)) → ∃ z s' k', L_Points_countCoefficients_19 k0 n (I (k + 1)) s1 = some (z, s') ∧ FrC [32 + 4 * k0] s s' ∧ c ≤ k' + 1 ∧ (∀ j < c, s' (32 + 4 * k0) 0 j = I (TN f (s (30 + 4 * k0) 0) (s (31 + 4 * k0) 0) k' j)) := by
  obtain ⟨hf, hc, hP1, hP2⟩ := id hP
  intro d
  induction d with
  | zero =>
    intro k n s1 hk hn hk1 hF hT
    match n, hn with
    | n + 1, _ =>
      have e33 : s1 (33 + 4 * k0) 0 0 = I c := by rw [hF (33 + 4 * k0) (by simp)]; exact h33
      rw [L_Points_countCoefficients_19, e33, if_pos (show I c ≤ I (k + 1) by rw [I_le (by omega) (by omega)]; omega)]
      exact ⟨_, _, k, rfl, hF, by omega, hT⟩
  | succ d ih =>
    intro k n s1 hk hn hk1 hF hT
    match n, hn with
    | n + 1, hn =>
      have e33 : s1 (33 + 4 * k0) 0 0 = I c := by rw [hF (33 + 4 * k0) (by simp)]; exact h33
      rw [L_Points_countCoefficients_19, e33]
      by_cases hle : c ≤ k + 1
      · rw [if_pos (show I c ≤ I (k + 1) by rw [I_le (by omega) (by omega)]; omega)]
        exact ⟨_, _, k, rfl, hF, hle, hT⟩
      · rw [if_neg (show ¬ I c ≤ I (k + 1) by rw [I_le (by omega) (by omega)]; omega)]
        simp only [jlet]
        rw [I1, I_sub (by omega)]
        obtain ⟨z, s2, e1, e2, e3⟩ := cd_inner (k := k) hP h51 (c - 1 - k) jF (c - 1) s1 (by omega) (by unfold jF; omega) (by omega) hF (fun j hj => by rw [hT j hj, if_neg (by omega)])
        rw [e1]
        simp only [Option.bind_some, I_add]
        exact ih (k + 1) n s2 (by omega) (by omega) (by omega) e2 e3
theorem cd_spec {s : jU} {f c k0 : Nat} (hP : Pt f c (s (30 + 4 * k0) 0) (s (31 + 4 * k0) 0)) (h51 : s (51 + k0) 0 0 = I f) (h33 : s (33 + 4 * k0) 0 0 = I c) : ∃ s', f_Points_countCoefficients k0 s = (Option.bind (L_Points_countCoefficients_124 k0 s' jF (I c)) fun x53 => some (x53, s')) ∧ FrC [32 + 4 * k0] s s' ∧ (∀ j < c, s' (32 + 4 * k0) 0 j = I (TN f (s (30 + 4 * k0) 0) (s (31 + 4 * k0) 0) j j)) := by
  obtain ⟨hf, hc, hP1, hP2⟩ := id hP
  unfold f_Points_countCoefficients
  rw [h33, if_pos (by rw [I_jin (by omega)]; omega), I_cl (by omega)]
  simp only [jlet]
  have hF0 : FrC [32 + 4 * k0] s (ups s (32 + 4 * k0) 0 (va_cpy (s (31 + 4 * k0) 0) (s (32 + 4 * k0) 0) (0 : Int32).toNatClampNeg (0 : Int32).toNatClampNeg c)) := FrC.up (by simp)
  obtain ⟨z, s2, k', e1, e2, e3, e4⟩ := cd_outer hP h51 h33 c 0 jF _ (by omega) (by unfold jF; omega) (by omega) hF0 (fun j hj => by
    rw [ups_eq, TN_0 (hP1 j hj).2]
    show (if 0 ≤ j ∧ j < 0 + c then s (31 + 4 * k0) 0 (0 + (j - 0)) else _) = _
    rw [if_pos (by omega), show 0 + (j - 0) = j from by omega]
    exact (hP1 j hj).2.1)
  rw [show (1 : Int32) = I (0 + 1) from rfl, e1]
  simp only [Option.bind_some]
  have e33 : s2 (33 + 4 * k0) 0 0 = I c := by rw [e2 (33 + 4 * k0) (by simp)]; exact h33
  have e5 : ∀ j < c, s2 (32 + 4 * k0) 0 j = I (TN f (s (30 + 4 * k0) 0) (s (31 + 4 * k0) 0) j j) := fun j hj => by
    rw [e4 j hj, show k' = j + (k' - j) from by omega, TN_dg]
  rw [e33]
  exact ⟨s2, rfl, e2, e5⟩
theorem md_inner {g : jS} {f c k : Nat} (hP : Pt f c (g 3) (g 4)) (h1 : g 1 0 = I f) : ∀ (d n i : Nat) (g1 : jS), i = k + d → d < n → i < c → FrM [5] g g1 → (∀ j < c, g1 5 j = I (if i < j then TN f (g 3) (g 4) (k + 1) j else TN f (g 3) (g 4) k j)) → ∃ z g', L_Mod_divide_45 (I (k + 1)) n (I i) g1 = some (z, g') ∧ FrM [5] g g' ∧ (∀ j < c, g' 5 j = I (TN f (g 3) (g 4) (k + 1) j)) := by
  obtain ⟨hf, hc, hP1, hP2⟩ := id hP
  have hq := qf_b f
  intro d
  induction d with
  | zero =>
    intro n i s1 hi hn hic hF hT
    match n, hn with
    | n + 1, _ =>
      rw [L_Mod_divide_45, if_pos (show I i < I (k + 1) by rw [I_lt (by omega) (by omega)]; omega)]
      refine ⟨_, _, rfl, hF, fun j hj => ?_⟩
      rw [hT j hj]
      by_cases e : i < j
      · rw [if_pos e]
      · rw [if_neg e, TN_le (by omega)]
  | succ d ih =>
    intro n i s1 hi hn hic hF hT
    match n, hn with
    | n + 1, hn =>
      have h12 : jin (I i) 12 := by rw [I_jin (by omega)]; omega
      have ei1 : I i - 1 = I (i - 1) := by rw [I1, I_sub (by omega)]
      have h12' : jin (I (i - 1)) 12 := by rw [I_jin (by omega)]; omega
      have eik : I i - I (k + 1) = I (i - (k + 1)) := I_sub (by omega)
      have h12k : jin (I (i - (k + 1))) 12 := by rw [I_jin (by omega)]; omega
      have t1 : s1 5 i = I (TN f (g 3) (g 4) k i) := by rw [hT i hic, if_neg (by omega)]
      have t2 : s1 5 (i - 1) = I (TN f (g 3) (g 4) k (i - 1)) := by rw [hT (i - 1) (by omega), if_neg (by omega)]
      have x1 : s1 3 i = I (Xf f (g 3) i).1 := by rw [hF 3 (by simp)]; exact Xf_I (hP1 i hic).1
      have x2 : s1 3 (i - (k + 1)) = I (Xf f (g 3) (i - (k + 1))).1 := by rw [hF 3 (by simp)]; exact Xf_I (hP1 _ (by omega)).1
      have f1 : s1 1 0 = I f := by rw [hF 1 (by simp)]; exact h1
      have hl1 := TN_lt f (g 3) (g 4) k i
      have hl2 := TN_lt f (g 3) (g 4) k (i - 1)
      have hl3 : fsu f (Xf f (g 3) i).1 (Xf f (g 3) (i - (k + 1))).1 < qf f := fsu_lt (Xf f _ i).2 (Xf f _ _).2
      have hl4 : fsu f (TN f (g 3) (g 4) k i) (TN f (g 3) (g 4) k (i - 1)) < qf f := fsu_lt hl1 hl2
      have hne := (Pt_ne hP hic (show i - (k + 1) < c by omega) (by omega)).1
      rw [L_Mod_divide_45, if_neg (show ¬ I i < I (k + 1) by rw [I_lt (by omega) (by omega)]; omega), if_pos h12, ei1, if_pos h12', I_cl (show i < 2147483648 by omega), I_cl (show i - 1 < 2147483648 by omega), f1, t1, t2, Ml_spec hf hl1 hl2, Option.bind_some, if_pos h12, eik, if_pos h12k, I_cl (show i - (k + 1) < 2147483648 by omega), x1, x2, Ml_spec hf (Xf f _ i).2 (Xf f _ _).2, Option.bind_some, Mv_spec hf hl4 hl3 hne, Option.bind_some, if_pos h12, ← TN_s (by omega)]
      simp only [jlet]
      rw [I_m3, ei1]
      refine ih n (i - 1) _ (by omega) (by omega) (by omega) (hF.tr (FrM.up (l := [5]) (by simp)) (fun _ h => h) (fun _ h => h)) (fun j hj => ?_)
      rw [vu_eq]
      by_cases e : j = i
      · subst e; rw [upd_eq, if_pos (by omega)]
      · rw [upd_ne e, hT j hj]
        by_cases e2 : i < j
        · rw [if_pos e2, if_pos (by omega)]
        · rw [if_neg e2, if_neg (by omega)]
theorem md_outer {g : jS} {f c : Nat} (hP : Pt f c (g 3) (g 4)) (h1 : g 1 0 = I f) (h2 : g 2 0 = I c) : ∀ (d k n : Nat) (g1 : jS), k + d = c ∨ (c ≤ k + 1 ∧ d = 0) → d < n → k < 100 → FrM [5] g g1 → (∀ j < c, g1 5 j = I (TN f (g 3) (g 4) k j)) → ∃ z g' k', L_Mod_divide_30 n (I (k + 1)) g1 = some (z, g') ∧ FrM [5] g g' ∧ c ≤ k' + 1 ∧ (∀ j < c, g' 5 j = I (TN f (g 3) (g 4) k' j)) := by
  obtain ⟨hf, hc, hP1, hP2⟩ := id hP
  intro d
  induction d with
  | zero =>
    intro k n s1 hk hn hk1 hF hT
    match n, hn with
    | n + 1, _ =>
      have e33 : s1 2 0 = I c := by rw [hF 2 (by simp)]; exact h2
      rw [L_Mod_divide_30, e33, if_pos (show I c ≤ I (k + 1) by rw [I_le (by omega) (by omega)]; omega)]
      exact ⟨_, _, k, rfl, hF, by omega, hT⟩
  | succ d ih =>
    intro k n s1 hk hn hk1 hF hT
    match n, hn with
    | n + 1, hn =>
      have e33 : s1 2 0 = I c := by rw [hF 2 (by simp)]; exact h2
      rw [L_Mod_divide_30, e33]
      by_cases hle : c ≤ k + 1
      · rw [if_pos (show I c ≤ I (k + 1) by rw [I_le (by omega) (by omega)]; omega)]
        exact ⟨_, _, k, rfl, hF, hle, hT⟩
      · rw [if_neg (show ¬ I c ≤ I (k + 1) by rw [I_le (by omega) (by omega)]; omega)]
        simp only [jlet]
        rw [I1, I_sub (by omega)]
        obtain ⟨z, s2, e1, e2, e3⟩ := md_inner (k := k) hP h1 (c - 1 - k) jF (c - 1) s1 (by omega) (by unfold jF; omega) (by omega) hF (fun j hj => by rw [hT j hj, if_neg (by omega)])
        rw [e1]
        simp only [Option.bind_some, I_add]
        exact ih (k + 1) n s2 (by omega) (by omega) (by omega) e2 e3
theorem md_spec {g : jS} {f c : Nat} (hP : Pt f c (g 3) (g 4)) (h1 : g 1 0 = I f) (h2 : g 2 0 = I c) : ∃ g', f_Mod_divide g = some g' ∧ FrM [5] g g' ∧ (∀ j < c, g' 5 j = I (TN f (g 3) (g 4) j j)) := by
  obtain ⟨hf, hc, hP1, hP2⟩ := id hP
  obtain ⟨g1, e1, c1, c2⟩ := loopU L_Mod_divide_2 c (fun i g1 => FrM [5] g g1 ∧ ∀ j < i, g1 5 j = g 4 j) (fun n i g1 hi hP => by
      obtain ⟨d1, d2⟩ := hP
      have h12 : jin (I i) 12 := by rw [I_jin (by omega)]; omega
      refine ⟨va_up g1 5 (upd (g1 5) i (g 4 i)), ⟨d1.tr (FrM.up (l := [5]) (by simp)) (fun _ h => h) (fun _ h => h), fun j hj => ?_⟩, ?_⟩
      · rw [vu_eq]
        by_cases e : j = i
        · subst e; rw [upd_eq]
        · rw [upd_ne e]; exact d2 j (by omega)
      · rw [L_Mod_divide_2, d1 2 (by simp), h2, if_neg (show ¬ I c ≤ I i by rw [I_le (by omega) (by omega)]; omega), if_pos h12, if_pos h12, I_cl (by omega), d1 4 (by simp)]
        simp only [jlet]
        rw [I1, I_add])
    (fun n g1 hP => by rw [L_Mod_divide_2, hP.1 2 (by simp), h2, if_pos (Int32.le_refl _)]) c 0 jF g (by omega) (by unfold jF; omega) ⟨FrM.rf, fun j hj => by omega⟩
  obtain ⟨z, s2, k', e2, e3, e4, e5⟩ := md_outer hP h1 h2 c 0 jF g1 (by omega) (by unfold jF; omega) (by omega) c1 (fun j hj => by
    rw [c2 j hj, TN_0 (hP1 j hj).2]; exact (hP1 j hj).2.1)
  refine ⟨s2, ?_, e3, fun j hj => by rw [e5 j hj, show k' = j + (k' - j) from by omega, TN_dg]⟩
  unfold f_Mod_divide
  rw [show L_Mod_divide_2 jF 0 g = _ from e1]
  simp only [Option.bind_some]
  rw [show L_Mod_divide_30 jF 1 g1 = _ from e2]; rfl
theorem cnt_eq {s : jU} {g : jS} {c k0 : Nat} (hc : c ≤ 12) (h : ∀ j < c, g 5 j = s (32 + 4 * k0) 0 j) : ∀ (i n m : Nat), i ≤ c → i < n → i < m → ∃ x, L_Points_countCoefficients_124 k0 s n (I i) = some x ∧ L_Mod_degree_14 g m (I i) = some x := by
  intro i
  induction i with
  | zero =>
    intro n m _ hn hm
    match n, m, hn, hm with
    | n + 1, m + 1, _, _ =>
      rw [L_Points_countCoefficients_124, L_Mod_degree_14, if_pos (by decide), if_pos (by decide)]
      exact ⟨_, rfl, rfl⟩
  | succ i ih =>
    intro n m hi hn hm
    match n, m, hn, hm with
    | n + 1, m + 1, hn, hm =>
      have h12 : jin (I i) 12 := by rw [I_jin (by omega)]; omega
      have hle : ¬ I (i + 1) ≤ 0 := by rw [I0, I_le (by omega) (by omega)]; omega
      rw [L_Points_countCoefficients_124, L_Mod_degree_14, if_neg hle, if_neg hle, I_m2, if_pos h12, if_pos h12, I_cl (by omega), h i (by omega)]
      by_cases hz : s (32 + 4 * k0) 0 i = 0
      · rw [if_neg (fun e => e hz), if_neg (fun e => e hz)]
        simp only [jlet]
        rw [I_m3, I_m2]
        exact ih n m (by omega) (by omega) (by omega)
      · rw [if_pos hz, if_pos hz]
        exact ⟨_, rfl, rfl⟩
theorem Xf_congr {f : Nat} {x y : Nat → Int32} {i : Nat} (h : x i = y i) : Xf f x i = Xf f y i := by unfold Xf; rw [h]
theorem TN_congr {f c : Nat} {x y x' y' : Nat → Int32} (hx : ∀ j < c, x j = x' j) (hy : ∀ j < c, y j = y' j) : ∀ k i, i < c → TN f x y k i = TN f x' y' k i := by
  intro k
  induction k with
  | zero => intro i hi; unfold TN; exact congrArg Subtype.val (Xf_congr (hy i hi))
  | succ k ih =>
    intro i hi
    by_cases h : i ≤ k
    · rw [TN_le h, TN_le h, ih i hi]
    · rw [TN_s h, TN_s h, ih i hi, ih (i - 1) (by omega), Xf_congr (hx i hi), Xf_congr (hx (i - (k + 1)) (by omega))]
theorem RelP_pt {s : jU} {g : jS} (h : RelP s g) : ∃ f c, Pt f c (s 30 0) (s 31 0) ∧ Pt f c (g 3) (g 4) ∧ s 51 0 0 = I f ∧ g 1 0 = I f ∧ s 33 0 0 = I c ∧ g 2 0 = I c ∧ (∀ j < c, g 3 j = s 30 0 j) ∧ (∀ j < c, g 4 j = s 31 0 j) := by
  obtain ⟨f, c, hf, hc, h51, h1, h33, h2, hp, hd⟩ := h
  refine ⟨f, c, ⟨hf, hc, fun j hj => ⟨(hp j hj).2.2.1, (hp j hj).2.2.2.1⟩, hd⟩, ⟨hf, hc, fun j hj => ?_, fun i j a b => ?_⟩, h51, h1, h33, h2, fun j hj => (hp j hj).1, fun j hj => (hp j hj).2.1⟩
  · rw [(hp j hj).1, (hp j hj).2.1]; exact ⟨(hp j hj).2.2.1, (hp j hj).2.2.2.1⟩
  · rw [(hp i (by omega)).1, (hp j b).1]; exact hd i j a b
theorem Rel_fr {s s' : jU} {g g' : jS} (h : Rel s g) (a : FrC [32] s s') (b : FrM [0, 5] g g') : Rel s' g' := by
  have a' : ∀ K, K ≠ 32 → s' K = s K := fun K hK => a K (by simpa using hK)
  have b' : ∀ K, K ≠ 0 → K ≠ 5 → g' K = g K := fun K h1 h2 => b K (by simp; omega)
  unfold Rel RelP RelT Rel0 RelR rSc rCz rCo rFa rCr rEl rNu rCm rSh rMa rKe rBo rRo ctot at *
  simp (disch := decide) only [a', b']
  exact h
theorem fa_degree {s : jU} {g : jS} (h : Rel s g) : FaR Rel (f_SR_degree s) (f_Mod_degree g) := by
  obtain ⟨f, c, hP, hQ, h51, h1, h33, h2, h3, h4⟩ := RelP_pt h.1
  have hQ' : Pt f c (va_up g 0 (fun _ => 0) 3) (va_up g 0 (fun _ => 0) 4) := hQ
  obtain ⟨s', e1, f1, t1⟩ := cd_spec (k0 := 0) hP h51 h33
  obtain ⟨g', e2, f2, t2⟩ := md_spec (g := va_up g 0 (fun _ => 0)) hQ' h1 h2
  obtain ⟨x, c1, c2⟩ := cnt_eq (s := s') (g := g') (k0 := 0) hP.2.1 (fun j hj => by
    rw [t1 j hj, t2 j hj]
    exact congrArg I (TN_congr (fun j hj => h3 j hj) (fun j hj => h4 j hj) j j hj)) c jF jF (Nat.le_refl _) (by have := hP.2.1; unfold jF; omega) (by have := hP.2.1; unfold jF; omega)
  refine ⟨x, s', g', ?_, ?_, ?_⟩
  · unfold f_SR_degree
    rw [e1, c1]; rfl
  · unfold f_Mod_degree
    simp only [jlet]
    rw [e2, Option.bind_some, f2 2 (by simp), show va_up g 0 (fun _ => (0 : Int32)) 2 0 = I c from h2, c2]; rfl
  · refine Rel_fr h f1 ?_
    exact (FrM.up (l := [0, 5]) (K := 0) (by simp)).tr f2 (fun _ h => h) (by simp)

/-! ===== Lagrange in the class ===== -/
/-- the products, as numbers -/
def PN (f : Nat) (x : Nat → Int32) (i : Nat) (v : FdM f) (m : Nat) : Nat := letI := Fd_cr f; (pr (Xf f x) i v m).1
theorem PN_lt (f : Nat) (x : Nat → Int32) (i : Nat) (v : FdM f) (m : Nat) : PN f x i v m < qf f := letI := Fd_cr f; (pr (Xf f x) i v m).2
theorem PN_0 (f : Nat) (x : Nat → Int32) (i : Nat) (v : FdM f) : PN f x i v 0 = 1 := Fd_one f
theorem PN_e {f : Nat} {x : Nat → Int32} {i m : Nat} {v : FdM f} (h : m = i) : PN f x i v (m + 1) = PN f x i v m := by
  letI := Fd_cr f
  unfold PN; rw [pr, if_pos h]
theorem PN_s {f : Nat} {x : Nat → Int32} {i m : Nat} {v : FdM f} (h : ¬ m = i) : PN f x i v (m + 1) = fmu f (PN f x i v m) (fsu f v.1 (Xf f x m).1) := by
  letI := Fd_cr f
  unfold PN
  rw [pr, if_neg h]
  show fmu f _ (v - Xf f x m : FdM f).1 = _
  rw [Fd_sub f]
theorem wt_loop {s : jU} {f c k0 i : Nat} {v : FdM f} (hP : Pt f c (s (30 + 4 * k0) 0) (s (31 + 4 * k0) 0)) (h51 : s (51 + k0) 0 0 = I f) (h33 : s (33 + 4 * k0) 0 0 = I c) (hi : i < c) : ∀ (d j n : Nat), j + d = c → d < n → ∃ z, L_Points_weight_8 k0 (I i) (I v.1) s n (I (PN f (s (30 + 4 * k0) 0) i v j)) (I (PN f (s (30 + 4 * k0) 0) i (Xf f (s (30 + 4 * k0) 0) i) j)) (I j) = some (I (PN f (s (30 + 4 * k0) 0) i v c), I (PN f (s (30 + 4 * k0) 0) i (Xf f (s (30 + 4 * k0) 0) i) c), z) := by
  obtain ⟨hf, hc, hP1, hP2⟩ := id hP
  have hq := qf_b f
  intro d
  induction d with
  | zero =>
    intro j n hj hn
    match n, hn with
    | n + 1, _ =>
      have e : j = c := by omega
      subst e
      rw [L_Points_weight_8, h33, if_pos (Int32.le_refl _)]
      exact ⟨_, rfl⟩
  | succ d ih =>
    intro j n hj hn
    match n, hn with
    | n + 1, hn =>
      have hi12 : jin (I i) 12 := by rw [I_jin (by omega)]; omega
      have hj12 : jin (I j) 12 := by rw [I_jin (by omega)]; omega
      rw [L_Points_weight_8, h33, if_neg (show ¬ I c ≤ I j by rw [I_le (by omega) (by omega)]; omega)]
      have ihj := ih (j + 1) n (by omega) (by omega)
      by_cases e : j = i
      · rw [if_pos (show I j = I i by rw [e])]
        simp only [Option.bind_some, jlet]
        rw [I1, I_add]
        rwa [PN_e e, PN_e e] at ihj
      · have x1 : s (30 + 4 * k0) 0 i = I (Xf f (s (30 + 4 * k0) 0) i).1 := Xf_I (hP1 i hi).1
        have x2 : s (30 + 4 * k0) 0 j = I (Xf f (s (30 + 4 * k0) 0) j).1 := Xf_I (hP1 j (by omega)).1
        have l1 : fsu f v.1 (Xf f (s (30 + 4 * k0) 0) j).1 < qf f := fsu_lt v.2 (Xf f _ j).2
        have l2 : fsu f (Xf f (s (30 + 4 * k0) 0) i).1 (Xf f (s (30 + 4 * k0) 0) j).1 < qf f := fsu_lt (Xf f _ i).2 (Xf f _ j).2
        rw [if_neg (show ¬ I j = I i by rw [I_eq (by omega) (by omega)]; exact e), if_pos hj12, I_cl (show j < 2147483648 by omega), h51, fnum_f hf, x2, Fm_spec hf v.2 (Xf f _ j).2, Option.bind_some, Ft_spec hf (PN_lt _ _ _ _ _) l1, Option.bind_some, if_pos hi12, if_pos hj12, I_cl (show i < 2147483648 by omega), x1, Fm_spec hf (Xf f _ i).2 (Xf f _ j).2, Option.bind_some, Ft_spec hf (PN_lt _ _ _ _ _) l2, Option.bind_some]
        simp only [Option.bind_some, jlet]
        rw [I1, I_add]
        rwa [PN_s e, PN_s e] at ihj
def WN (f : Nat) (x : Nat → Int32) (c i : Nat) (v : FdM f) : Nat := fmu f (PN f x i v c) (fiv f (PN f x i (Xf f x i) c))
theorem WN_lt (f : Nat) (x : Nat → Int32) (c i : Nat) (v : FdM f) : WN f x c i v < qf f := fmu_lt (PN_lt _ _ _ _ _)
theorem wt_spec {s : jU} {f c k0 i : Nat} {v : FdM f} (hP : Pt f c (s (30 + 4 * k0) 0) (s (31 + 4 * k0) 0)) (h51 : s (51 + k0) 0 0 = I f) (h33 : s (33 + 4 * k0) 0 0 = I c) (hi : i < c) : f_Points_weight k0 (I i) (I v.1) s = some (I (WN f (s (30 + 4 * k0) 0) c i v)) := by
  obtain ⟨hf, hc, hP1, hP2⟩ := id hP
  have hq := qf_b f
  unfold f_Points_weight
  obtain ⟨z, h⟩ := wt_loop (v := v) hP h51 h33 hi c 0 jF (by omega) (by unfold jF; omega)
  rw [PN_0, PN_0] at h
  rw [show L_Points_weight_8 k0 (I i) (I v.1) s jF 1 1 0 = _ from h]
  simp only [Option.bind_some]
  rw [h51, fnum_f hf, Fi_spec hf (PN_lt _ _ _ _ _), Option.bind_some, Ft_spec hf (PN_lt _ _ _ _ _) (fiv_lt (PN_lt _ _ _ _ _)), Option.bind_some]
  rfl
/-- the value, as a number -/
def VN (f : Nat) (x y : Nat → Int32) (c : Nat) (v : FdM f) (m : Nat) : Nat := letI := Fd_cr f; (Lv (Xf f x) (Xf f y) (Fd_iv f) c v m).1
theorem VN_lt (f : Nat) (x y : Nat → Int32) (c : Nat) (v : FdM f) (m : Nat) : VN f x y c v m < qf f := letI := Fd_cr f; (Lv (Xf f x) (Xf f y) (Fd_iv f) c v m).2
theorem VN_s (f : Nat) (x y : Nat → Int32) (c : Nat) (v : FdM f) (m : Nat) : VN f x y c v (m + 1) = fad f (VN f x y c v m) (fmu f (WN f x c m v) (Xf f y m).1) := rfl
theorem VN_0 (f : Nat) (x y : Nat → Int32) (c : Nat) (v : FdM f) : VN f x y c v 0 = 0 := rfl
theorem va_loop {s : jU} {f c k0 : Nat} {v : FdM f} (hP : Pt f c (s (30 + 4 * k0) 0) (s (31 + 4 * k0) 0)) (h51 : s (51 + k0) 0 0 = I f) (h33 : s (33 + 4 * k0) 0 0 = I c) : ∀ (d j n : Nat), j + d = c → d < n → ∃ z, L_Points_valueAt_4 k0 (I v.1) s n (I (VN f (s (30 + 4 * k0) 0) (s (31 + 4 * k0) 0) c v j)) (I j) = some (I (VN f (s (30 + 4 * k0) 0) (s (31 + 4 * k0) 0) c v c), z) := by
  obtain ⟨hf, hc, hP1, hP2⟩ := id hP
  intro d
  induction d with
  | zero =>
    intro j n hj hn
    match n, hn with
    | n + 1, _ =>
      have e : j = c := by omega
      subst e
      rw [L_Points_valueAt_4, h33, if_pos (Int32.le_refl _)]
      exact ⟨_, rfl⟩
  | succ d ih =>
    intro j n hj hn
    match n, hn with
    | n + 1, hn =>
      have hj12 : jin (I j) 12 := by rw [I_jin (by omega)]; omega
      have y1 : s (31 + 4 * k0) 0 j = I (Xf f (s (31 + 4 * k0) 0) j).1 := Xf_I (hP1 j (by omega)).2
      have l1 : fmu f (WN f (s (30 + 4 * k0) 0) c j v) (Xf f (s (31 + 4 * k0) 0) j).1 < qf f := fmu_lt (WN_lt _ _ _ _ _)
      rw [L_Points_valueAt_4, h33, if_neg (show ¬ I c ≤ I j by rw [I_le (by omega) (by omega)]; omega), wt_spec hP h51 h33 (by omega), Option.bind_some, if_pos hj12, I_cl (by omega), h51, fnum_f hf, y1, Ft_spec hf (WN_lt _ _ _ _ _) (Xf f _ j).2, Option.bind_some, Fp_spec hf (VN_lt _ _ _ _ _ _) l1, Option.bind_some, ← VN_s]
      simp only [jlet]
      rw [I1, I_add]
      exact ih (j + 1) n (by omega) (by omega)
theorem va_spec {s : jU} {f c k0 : Nat} {v : FdM f} (hP : Pt f c (s (30 + 4 * k0) 0) (s (31 + 4 * k0) 0)) (h51 : s (51 + k0) 0 0 = I f) (h33 : s (33 + 4 * k0) 0 0 = I c) : f_Points_valueAt k0 (I v.1) s = some (I (VN f (s (30 + 4 * k0) 0) (s (31 + 4 * k0) 0) c v c)) := by
  have hc := hP.2.1
  unfold f_Points_valueAt
  obtain ⟨z, h⟩ := va_loop (v := v) hP h51 h33 c 0 jF (by omega) (by unfold jF; omega)
  rw [show L_Points_valueAt_4 k0 (I v.1) s jF 0 0 = _ from h]; rfl
/-! Newton's form in the reference -/
def HN (f : Nat) (x y : Nat → Int32) (v : FdM f) (m : Nat) (a : FdM f) : Nat := letI := Fd_cr f; (Hn (Xf f x) (fun k => Tb (Xf f x) (Xf f y) (Fd_dv f) k k) v m a).1
theorem mc_loop {g : jS} {f c : Nat} {x y : Nat → Int32} {v : FdM f} (hf : f < 3) (hc : c ≤ 12) (h1 : g 1 0 = I f) (hx : ∀ j < c, g 3 j = I (Xf f x j).1) (ht : ∀ j < c, g 5 j = I (TN f x y j j)) : ∀ (m n : Nat) (a : FdM f), m ≤ c → m < n → ∃ z, L_Mod_combine_53 (I v.1) g n (I a.1) (I m - 1) = some (I (HN f x y v m a), z) := by
  letI := Fd_cr f
  intro m
  induction m with
  | zero =>
    intro n a _ hn
    match n, hn with
    | n + 1, _ =>
      rw [L_Mod_combine_53, if_pos (by decide)]
      exact ⟨_, rfl⟩
  | succ m ih =>
    intro n a hm hn
    match n, hn with
    | n + 1, hn =>
      have hm12 : jin (I m) 12 := by rw [I_jin (by omega)]; omega
      have l1 : fsu f v.1 (Xf f x m).1 < qf f := fsu_lt v.2 (Xf f _ m).2
      have l2 : fmu f a.1 (fsu f v.1 (Xf f x m).1) < qf f := fmu_lt a.2
      rw [L_Mod_combine_53, I_m2, if_neg (show ¬ I m < 0 by rw [I0, I_lt (by omega) (by omega)]; omega), if_pos hm12, I_cl (by omega), h1, hx m (by omega), Ml_spec hf v.2 (Xf f _ m).2, Option.bind_some, Mt_spec hf a.2 l1, Option.bind_some, if_pos hm12, ht m (by omega), Mp_spec hf l2 (TN_lt _ _ _ _ _), Option.bind_some]
      simp only [jlet]
      rw [I_m3]
      have e : fad f (fmu f a.1 (fsu f v.1 (Xf f x m).1)) (TN f x y m m) = (a * (v - Xf f x m) + Tb (Xf f x) (Xf f y) (Fd_dv f) m m : FdM f).1 := by
        show _ = fad f (fmu f a.1 (v - Xf f x m : FdM f).1) _
        rw [Fd_sub f]; rfl
      rw [e]
      exact ih n _ (by omega) (by omega)
theorem VN_HN {f c : Nat} {x y : Nat → Int32} (hP : Pt f c x y) (v : FdM f) : letI := Fd_cr f; VN f x y c v c = HN f x y v c 0 := by
  letI := Fd_cr f
  obtain ⟨hf, hc, hP1, hP2⟩ := id hP
  exact congrArg Subtype.val (Lv_Nv (Fd_hz hf) (Fd_h1 f) (Fd_hdv hf) (Fd_hiv hf) (fun i j a b => (Pt_ne hP (show i < c by omega) b (by omega)).2) (c := fun k => Tb (Xf f x) (Xf f y) (Fd_dv f) k k) (fun k _ => rfl) v)
theorem VN_congr {f c : Nat} {x y x' y' : Nat → Int32} (hx : ∀ j < c, x j = x' j) (hy : ∀ j < c, y j = y' j) (v : FdM f) : VN f x y c v c = VN f x' y' c v c := by
  have hP : ∀ i, i < c → ∀ (w : FdM f) m, m ≤ c → PN f x i w m = PN f x' i w m := fun i hi w m => by
    induction m with
    | zero => intro _; rw [PN_0, PN_0]
    | succ m ih =>
      intro hm
      by_cases e : m = i
      · rw [PN_e e, PN_e e, ih (by omega)]
      · rw [PN_s e, PN_s e, ih (by omega), Xf_congr (hx m (by omega))]
  have key : ∀ m, m ≤ c → VN f x y c v m = VN f x' y' c v m := fun m => by
    induction m with
    | zero => intro _; rw [VN_0, VN_0]
    | succ m ih =>
      intro hm
      rw [VN_s, VN_s, ih (by omega), Xf_congr (hy m (by omega))]
      unfold WN
      rw [hP m (by omega) v c (Nat.le_refl _), Xf_congr (hx m (by omega)), hP m (by omega) _ c (Nat.le_refl _)]
  exact key c (Nat.le_refl _)
theorem fa_combine {s : jU} {g : jS} (h : Rel s g) (x : Int32) : FaP Rel [(xA, 1), (xS, 2)] s (f_SR_combine x s) (f_Mod_combine x g) := by
  obtain ⟨f, c, hP, hQ, h51, h1, h33, h2, h3, h4⟩ := RelP_pt h.1
  obtain ⟨hf, hc, -, -⟩ := id hP
  have hq := qf_b f
  unfold FaP f_SR_combine f_Mod_combine f_Points_size
  rw [h1, h2, show s (33 + 4 * 0) 0 0 = I c from h33]
  rcases elem_or hf h51 x with ⟨a, rfl, ha, e1, e2⟩ | ⟨e1, e2⟩
  · rw [e1, e2]
    simp only [Option.bind_some, if_pos (show ¬ I 1 = 0 by decide)]
    by_cases hc0 : c = 0
    · right
      subst hc0
      exact ⟨xS, 2, 0, va_up g 0 (fun _ => 2), by simp, rfl, rfl, rfl, Rel_0 _ h⟩
    · left
      have hcn : ¬ I c = 0 := by rw [I0, I_eq (by omega) (by omega)]; exact hc0
      simp only [if_pos hcn]
      have hQ' : Pt f c (va_up g 0 (fun _ => 0) 3) (va_up g 0 (fun _ => 0) 4) := hQ
      obtain ⟨g', e3, f2, t2⟩ := md_spec (g := va_up g 0 (fun _ => 0)) hQ' h1 h2
      letI := Fd_cr f
      have ea : (tF f a).1 = a := tF_1 ha
      have hva := va_spec (k0 := 0) (v := tF f a) hP h51 h33
      rw [ea] at hva
      have gx : ∀ j < c, g' 3 j = I (Xf f (g 3) j).1 := fun j hj => by
        rw [f2 3 (by simp)]; exact Xf_I (hQ.2.2.1 j hj).1
      obtain ⟨z, hm⟩ := mc_loop (g := g') (x := g 3) (y := g 4) (v := tF f a) hf hc (by rw [f2 1 (by simp)]; exact h1) gx t2 c jF 0 (Nat.le_refl _) (by unfold jF; omega)
      rw [ea] at hm
      have he : VN f (s 30 0) (s 31 0) c (tF f a) c = HN f (g 3) (g 4) (tF f a) c 0 := by
        rw [← VN_HN hQ (tF f a)]
        exact VN_congr (fun j hj => (h3 j hj).symm) (fun j hj => (h4 j hj).symm) _
      refine ⟨I (VN f (s 30 0) (s 31 0) c (tF f a) c), g', ?_, ?_, ?_, ?_⟩
      · rw [hva]; rfl
      · simp only [Option.bind_some, jlet]
        rw [if_pos (show va_up g 0 (fun _ => (0 : Int32)) 0 0 ≤ 0 from le00), e3, Option.bind_some, f2 2 (by simp), show va_up g 0 (fun _ => (0 : Int32)) 2 0 = I c from h2, show L_Mod_combine_53 (I a) g' jF 0 (I c - 1) = _ from hm, he]; rfl
      · show some (g' 0 0) = _
        rw [f2 0 (by simp)]; rfl
      · exact Rel_fr h FrC.rf ((FrM.up (l := [0, 5]) (K := 0) (by simp)).tr f2 (fun _ h => h) (by simp))
  · right
    rw [e1, e2]
    exact ⟨xA, 1, 0, va_up g 0 (fun _ => 1), by simp, rfl, rfl, rfl, Rel_0 _ h⟩

