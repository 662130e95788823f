/-! laws of floats and doubles: halving and doubling are exact; sums, products, quotients by their bits -/
section FLZ
def PZ (d : UInt64) (Z : Nat) : Prop := ∃ (c : Nat) (q : Int), FP.Core.val64 d = .fin false c q ∧ c * 2 ^ (q + 1074).toNat = Z
theorem qmin64 : FP.Core.b64.qmin = -1074 := by decide +kernel
theorem qmax64 : FP.Core.b64.qmax = 971 := by decide +kernel
theorem tails64 : FP.Core.b64.tails = 2 ^ 52 := by decide +kernel
theorem qmin32 : FP.Core.b32.qmin = -149 := by decide +kernel
theorem qmax32 : FP.Core.b32.qmax = 104 := by decide +kernel
theorem tails32 : FP.Core.b32.tails = 2 ^ 23 := by decide +kernel
theorem two64 : FP.Core.val64 4611686018427387904 = .fin false (2 ^ 52) (-51) := by decide +kernel
/-- a number of at most 53 digits is a double -/
theorem pz_norm (s : Bool) : ∀ (k c : Nat) (q : Int), c < 2 ^ 53 → q + 1074 = (k : Int) → q ≤ 971 → ∃ (c' : Nat) (q' : Int), FP.Core.fits FP.Core.b64 (.fin s c' q') ∧ q' ≤ q ∧ c' * 2 ^ (q' + 1074).toNat = c * 2 ^ (q + 1074).toNat := by
  intro k
  induction k with
  | zero =>
    intro c q hc hk hq
    refine ⟨c, q, ⟨hc, by rw [qmin64]; omega, by rw [qmax64]; omega, Or.inl (by rw [qmin64]; omega)⟩, Int.le_refl _, rfl⟩
  | succ k ih =>
    intro c q hc hk hq
    by_cases h : 2 ^ 52 ≤ c
    · exact ⟨c, q, ⟨hc, by rw [qmin64]; omega, by rw [qmax64]; omega, Or.inr (by rw [tails64]; exact h)⟩, Int.le_refl _, rfl⟩
    · obtain ⟨c', q', h1, h2, h3⟩ := ih (2 * c) (q - 1) (by omega) (by omega) (by omega)
      refine ⟨c', q', h1, by omega, h3.trans ?_⟩
      rw [show (q + 1074).toNat = (q - 1 + 1074).toNat + 1 by omega, Nat.pow_succ]
      generalize 2 ^ (q - 1 + 1074).toNat = X
      rw [Nat.mul_comm 2 c, Nat.mul_assoc, Nat.mul_comm 2 X]
/-- equal values, in other units -/
theorem pz_units {c c' : Nat} {q q' : Int} (b : Int) (hq : b ≤ q) (hq' : b ≤ q') (h : c * 2 ^ (q - b).toNat = c' * 2 ^ (q' - b).toNat) : c * 2 ^ (q - q').toNat = c' * 2 ^ (q' - q).toNat := by
  rcases Int.le_total q q' with g | g
  · rw [show (q - q').toNat = 0 by omega, Nat.pow_zero, Nat.mul_one]
    rw [show (q' - b).toNat = (q' - q).toNat + (q - b).toNat by omega, Nat.pow_add, ← Nat.mul_assoc] at h
    exact Nat.eq_of_mul_eq_mul_right (Nat.two_pow_pos _) h
  · rw [show (q' - q).toNat = 0 by omega, Nat.pow_zero, Nat.mul_one]
    rw [show (q - b).toNat = (q - q').toNat + (q' - b).toNat by omega, Nat.pow_add, ← Nat.mul_assoc] at h
    exact Nat.eq_of_mul_eq_mul_right (Nat.two_pow_pos _) h
theorem pz_1074 (q : Int) : q + 1074 = q - (-1074) := by omega
/-- exact rounding -/
theorem pz_exact {s : Bool} {c : Nat} {q : Int} (hc : c < 2 ^ 53) (h1 : -1074 ≤ q) (h2 : q ≤ 971) : ∃ (c' : Nat) (q' : Int), FP.Core.round FP.Core.b64 (.fin s c q) = .fin s c' q' ∧ c' * 2 ^ (q' + 1074).toNat = c * 2 ^ (q + 1074).toNat := by
  obtain ⟨c', q', g1, g2, g3⟩ := pz_norm s (q + 1074).toNat c q hc (by omega) h2
  refine ⟨c', q', FP.Core.roundRatio_exact FP.Core.good_b64 (by decide) g1 ?_, g3⟩
  rw [Nat.mul_one]
  have h3 : -1074 ≤ q' := by have := g1.2.1; rw [qmin64] at this; exact this
  rw [pz_1074, pz_1074] at g3
  exact pz_units (-1074) h1 h3 g3.symm
theorem pz_f2d {a : UInt32} {c : Nat} {q : Int} (h : FP.Core.val32 a = .fin false c q) : PZ (FP.Core.f2d a) (c * 2 ^ (q + 1074).toNat) := by
  have hf := FP.Core.val32_fits a
  rw [h] at hf
  obtain ⟨h1, h2, h3, -⟩ := hf
  rw [qmin32] at h2
  rw [qmax32] at h3
  have h1' : c < 2 ^ 24 := h1
  obtain ⟨c', q', g1, g2⟩ := pz_exact (s := false) (c := c) (q := q) (by omega) (by omega) (by omega)
  exact ⟨c', q', by rw [FP.Core.val64_f2d, h]; exact g1, g2⟩
theorem pz_i2d {n : Int32} (h : 0 ≤ n.toInt) : PZ (FP.Core.i2d n) (n.toInt.toNat * 2 ^ 1074) := by
  have h1 := n.toInt_lt
  obtain ⟨c', q', g1, g2⟩ := pz_exact (s := false) (c := n.toInt.toNat) (q := 0) (by omega) (by omega) (by omega)
  refine ⟨c', q', ?_, g2⟩
  rw [FP.Core.val64_i2d]
  show FP.Core.round FP.Core.b64 (.fin (decide (n.toInt < 0)) n.toInt.natAbs 0) = _
  rw [show n.toInt.natAbs = n.toInt.toNat by omega, decide_eq_false (by omega : ¬ n.toInt < 0)]
  exact g1
theorem pz_half {d : UInt64} {Z : Nat} (h : PZ d (2 * Z)) (hz : Z = 0 ∨ 2 ^ 52 ≤ Z) : PZ (FP.Core.ddiv d 4611686018427387904) Z := by
  obtain ⟨c, q, h1, h2⟩ := h
  have hf := FP.Core.val64_fits d
  rw [h1] at hf
  obtain ⟨f1, f2, f3, f4⟩ := hf
  rw [qmin64] at f2 f4
  rw [tails64] at f4
  rw [qmax64] at f3
  have hv : FP.Core.val64 (FP.Core.ddiv d 4611686018427387904) = FP.Core.roundRatio FP.Core.b64 false c (2 ^ 52) (q - (-51)) := by
    rw [FP.Core.val64_ddiv, h1, two64]
    rw [FP.Core.quotient, if_neg (by decide)]
    rfl
  by_cases hc : c = 0
  · subst hc
    refine ⟨0, -1074, ?_, ?_⟩
    · rw [hv, FP.Core.roundRatio, if_pos rfl, qmin64]
    · rw [Nat.zero_mul] at h2 ⊢
      omega
  · have hq : ¬ q = -1074 := by
      intro e
      subst e
      have f1' : c < 2 ^ 53 := f1
      have h2' : c * 2 ^ 0 = 2 * Z := h2
      rcases hz with g | g <;> omega
    refine ⟨c, q - 1, ?_, ?_⟩
    · rw [hv]
      refine FP.Core.roundRatio_exact FP.Core.good_b64 (by decide) ⟨f1, by rw [qmin64]; omega, by rw [qmax64]; omega, Or.inr ?_⟩ ?_
      · rw [tails64]
        exact f4.resolve_left hq
      · rw [show (q - -51 - (q - 1)).toNat = 52 by omega, show (q - 1 - (q - -51)).toNat = 0 by omega, Nat.pow_zero, Nat.mul_one]
    · rw [show (q + 1074).toNat = (q - 1 + 1074).toNat + 1 by omega, Nat.pow_succ, ← Nat.mul_assoc] at h2
      omega
theorem pz_double {d : UInt64} {Z : Nat} (h : PZ d Z) (hz : Z = 0 ∨ 2 ^ 53 ≤ Z) (hz2 : Z < 2 ^ 2000) : PZ (FP.Core.dmul d 4611686018427387904) (2 * Z) := by
  obtain ⟨c, q, h1, h2⟩ := h
  have hf := FP.Core.val64_fits d
  rw [h1] at hf
  obtain ⟨f1, f2, f3, f4⟩ := hf
  rw [qmin64] at f2 f4
  rw [tails64] at f4
  rw [qmax64] at f3
  have hv : FP.Core.val64 (FP.Core.dmul d 4611686018427387904) = FP.Core.roundRatio FP.Core.b64 false (c * 2 ^ 52) 1 (q + (-51)) := by
    rw [FP.Core.val64_dmul, h1, two64]
    rfl
  by_cases hc : c = 0
  · subst hc
    refine ⟨0, -1074, ?_, ?_⟩
    · rw [hv, Nat.zero_mul, FP.Core.roundRatio, if_pos rfl, qmin64]
    · rw [Nat.zero_mul] at h2 ⊢
      omega
  · have hq : ¬ q = -1074 := by
      intro e
      subst e
      have f1' : c < 2 ^ 53 := f1
      have h2' : c * 2 ^ 0 = Z := h2
      have hp : 0 < c := Nat.pos_of_ne_zero hc
      rcases hz with g | g <;> omega
    have hq2 : q + 1 ≤ 971 := by
      rcases Int.lt_or_le 970 q with g | g
      · exfalso
        have e1 : q = 971 := by omega
        subst e1
        have : 2 ^ 2045 ≤ c * 2 ^ 2045 := Nat.le_mul_of_pos_left _ (Nat.pos_of_ne_zero hc)
        have h2' : c * 2 ^ 2045 = Z := h2
        have h3 : (2 : Nat) ^ 2000 < 2 ^ 2045 := Nat.pow_lt_pow_right (by decide) (by decide)
        omega
      · omega
    refine ⟨c, q + 1, ?_, ?_⟩
    · rw [hv]
      refine FP.Core.roundRatio_exact FP.Core.good_b64 (by decide) ⟨f1, by rw [qmin64]; omega, by rw [qmax64]; omega, Or.inr ?_⟩ ?_
      · rw [tails64]
        exact f4.resolve_left hq
      · rw [show (q + -51 - (q + 1)).toNat = 0 by omega, show (q + 1 - (q + -51)).toNat = 52 by omega, Nat.pow_zero, Nat.mul_one, Nat.mul_one]
    · rw [show (q + 1 + 1074).toNat = (q + 1074).toNat + 1 by omega, Nat.pow_succ, ← Nat.mul_assoc]
      omega
theorem pz_ne {d : UInt64} {Z : Nat} (h : PZ d Z) : FP.Core.val64 d ≠ .nan := by
  obtain ⟨c, q, h1, -⟩ := h
  rw [h1]
  exact fun h => by cases h
theorem pz_zval {d : UInt64} {Z : Nat} (h : PZ d Z) : FP.Core.zval FP.Core.b64 (FP.Core.val64 d) = (Z : Int) := by
  obtain ⟨c, q, h1, h2⟩ := h
  rw [h1]
  show ((c * 2 ^ (q - FP.Core.b64.qmin).toNat : Nat) : Int) = Z
  rw [qmin64, ← pz_1074, h2]
theorem pz_cmp {a b : UInt64} {Y Z : Nat} (h : PZ a Y) (g : PZ b Z) : FP.Core.dcmp a b = some (compare (Y : Int) (Z : Int)) := by
  rw [FP.Core.dcmp_zval (pz_ne h) (pz_ne g), pz_zval h, pz_zval g]
theorem pz_whole {d : UInt64} {n : Nat} (h : PZ d (n * 2 ^ 1074)) : FP.Core.Whole (n : Int) (FP.Core.val64 d) := by
  obtain ⟨c, q, h1, h2⟩ := h
  rw [h1]
  show ((c * 2 ^ q.toNat : Nat) : Int) = (n : Int) * ((2 ^ (-q).toNat : Nat) : Int)
  have hf := FP.Core.val64_fits d
  rw [h1] at hf
  have f2 := hf.2.1
  rw [qmin64] at f2
  have h3 : c * 2 ^ (q - (-1074)).toNat = n * 2 ^ ((0 : Int) - (-1074)).toNat := by rw [← pz_1074]; exact h2
  have h4 := pz_units (-1074) f2 (by omega) h3
  rw [Int.sub_zero, Int.zero_sub] at h4
  rw [h4, Int.natCast_mul]
theorem pz_d2i {d : UInt64} {n : Nat} (h : PZ d (n * 2 ^ 1074)) (hn : n < 2 ^ 31) : FP.Core.d2i d = Int32.ofNat n := by
  refine FP.Core.d2i_int ?_
  show FP.Core.Whole (Int32.ofNat n).toInt (FP.Core.val64 d)
  rw [Int32.toInt_ofNat_of_lt hn]
  exact pz_whole h
theorem pz_d2l {d : UInt64} {n : Nat} (h : PZ d (n * 2 ^ 1074)) (hn : n < 2 ^ 63) : FP.Core.d2l d = Int64.ofNat n := by
  refine FP.Core.d2l_int ?_
  show FP.Core.Whole (Int64.ofNat n).toInt (FP.Core.val64 d)
  rw [Int64.toInt_ofNat_of_lt hn]
  exact pz_whole h
/-- .. and back to a float that it is -/
theorem pz_d2f {d : UInt64} {Z : Nat} {a : UInt32} {m : Nat} {r : Int} (h : PZ d Z) (ha : FP.Core.val32 a = .fin false m r) (hZ : m * 2 ^ (r + 1074).toNat = Z) : FP.Core.d2f d = a := by
  obtain ⟨c, q, h1, h2⟩ := h
  have hf := FP.Core.val64_fits d
  rw [h1] at hf
  have f2 := hf.2.1
  rw [qmin64] at f2
  have ff := FP.Core.val32_fits a
  rw [ha] at ff
  have g2 := ff.2.1
  rw [qmin32] at g2
  refine (FP.Core.val32_inj (by rw [ha]; exact fun h => by cases h) ?_).symm
  rw [FP.Core.val32_d2f, h1, ha]
  refine (FP.Core.roundRatio_exact FP.Core.good_b32 (by decide) ff ?_).symm
  rw [Nat.mul_one]
  refine pz_units (-1074) f2 (by omega) ?_
  rw [← pz_1074, ← pz_1074, h2, hZ]
def fq_m (n : Nat) : Nat := if n < 2 ^ 23 then n else 2 ^ 23 + n % 2 ^ 23
def fq_e (n : Nat) : Nat := if n < 2 ^ 23 then 1 else n / 2 ^ 23
theorem fq_T (n : Nat) : FP.Core.fieldT FP.Core.b32 n = n % 2 ^ 23 := by show n % FP.Core.b32.tails = _; rw [tails32]
theorem fq_E (n : Nat) : FP.Core.fieldE FP.Core.b32 n = n / 2 ^ 23 % 256 := by show n / FP.Core.b32.tails % 256 = _; rw [tails32]
theorem fq_S (n : Nat) : FP.Core.fieldS FP.Core.b32 n = (n / 2 ^ 23 / 256 % 2 == 1) := by show (n / FP.Core.b32.tails / 256 % 2 == 1) = _; rw [tails32]
theorem fq_exps : FP.Core.b32.exps = 256 := by decide +kernel
theorem fq_dec {n : Nat} (h : n % 2 ^ 31 < 2139095040) (hn : n < 2 ^ 32) : FP.Core.decode FP.Core.b32 n = .fin (decide (2 ^ 31 ≤ n)) (fq_m (n % 2 ^ 31)) ((fq_e (n % 2 ^ 31) : Int) - 150) := by
  have hS : FP.Core.fieldS FP.Core.b32 n = decide (2 ^ 31 ≤ n) := by
    rw [fq_S]
    by_cases g : 2 ^ 31 ≤ n
    · rw [decide_eq_true g]
      have : n / 2 ^ 23 / 256 % 2 = 1 := by omega
      rw [this]; rfl
    · rw [decide_eq_false g]
      have : n / 2 ^ 23 / 256 % 2 = 0 := by omega
      rw [this]; rfl
  rw [FP.Core.decode, fq_exps, hS, fq_T, fq_E, tails32, qmin32, if_neg (by omega)]
  unfold fq_m fq_e
  by_cases g : n % 2 ^ 31 < 2 ^ 23
  · rw [if_pos (by omega), if_pos g, if_pos g, show n % 2 ^ 23 = n % 2 ^ 31 by omega]
    rfl
  · rw [if_neg (by omega), if_neg g, if_neg g, show n % 2 ^ 31 % 2 ^ 23 = n % 2 ^ 23 by omega, show n % 2 ^ 31 / 2 ^ 23 = n / 2 ^ 23 % 256 by omega]
    congr 1
    omega
theorem fq_fin {a : UInt32} (h : a.toNat % 2 ^ 31 < 2139095040) : FP.Core.val32 a = .fin (decide (2 ^ 31 ≤ a.toNat)) (fq_m (a.toNat % 2 ^ 31)) ((fq_e (a.toNat % 2 ^ 31) : Int) - 150) := fq_dec h a.toNat_lt
theorem fq_inf {a : UInt32} (h : a.toNat % 2 ^ 31 = 2139095040) : FP.Core.val32 a = .inf (decide (2 ^ 31 ≤ a.toNat)) := by
  have hn := a.toNat_lt
  have hS : FP.Core.fieldS FP.Core.b32 a.toNat = decide (2 ^ 31 ≤ a.toNat) := by
    rw [fq_S]
    by_cases g : 2 ^ 31 ≤ a.toNat
    · rw [decide_eq_true g]
      have : a.toNat / 2 ^ 23 / 256 % 2 = 1 := by omega
      rw [this]; rfl
    · rw [decide_eq_false g]
      have : a.toNat / 2 ^ 23 / 256 % 2 = 0 := by omega
      rw [this]; rfl
  show FP.Core.decode FP.Core.b32 a.toNat = _
  rw [FP.Core.decode, fq_exps, hS, fq_T, fq_E, if_pos (by omega), if_pos (by omega)]
theorem fq_nan {a : UInt32} (h : 2139095040 < a.toNat % 2 ^ 31) : FP.Core.val32 a = .nan := by
  have hn := a.toNat_lt
  show FP.Core.decode FP.Core.b32 a.toNat = _
  rw [FP.Core.decode, fq_exps, fq_T, fq_E, if_pos (by omega), if_neg (by omega)]
theorem fq_bits (n : Nat) : (fq_e n - 1) * 2 ^ 23 + fq_m n = n := by
  unfold fq_m fq_e
  by_cases g : n < 2 ^ 23
  · rw [if_pos g, if_pos g]; omega
  · rw [if_neg g, if_neg g]; omega
theorem fq_e1 (n : Nat) : 1 ≤ fq_e n := by
  unfold fq_e
  split <;> omega
theorem fq_e254 {n : Nat} (h : n < 2139095040) : fq_e n ≤ 254 := by
  unfold fq_e
  split <;> omega
theorem fq_m24 (n : Nat) : fq_m n < 2 ^ 24 := by
  unfold fq_m
  split <;> omega
theorem fq_m23 (n : Nat) : 2 ^ 23 ≤ fq_m n ∨ fq_e n = 1 := by
  unfold fq_m fq_e
  split <;> omega
theorem fq_m0 {n : Nat} : fq_m n = 0 ↔ n = 0 := by
  unfold fq_m
  split <;> omega
/-- equal data, equal bits -/
theorem fq_eq {a b : UInt32} (h : FP.Core.val32 a = FP.Core.val32 b) (hn : a.toNat % 2 ^ 31 ≤ 2139095040) : a = b := by
  refine FP.Core.val32_inj ?_ h
  rcases Nat.lt_or_ge (a.toNat % 2 ^ 31) 2139095040 with g | g
  · rw [fq_fin g]; exact fun z => by cases z
  · rw [fq_inf (by omega)]; exact fun z => by cases z
theorem fq_num {a : UInt32} (h : FP.Core.val32 a ≠ .nan) : a.toNat % 2 ^ 31 ≤ 2139095040 := by
  rcases Nat.lt_or_ge 2139095040 (a.toNat % 2 ^ 31) with g | g
  · exact absurd (fq_nan g) h
  · exact g
/-- the sign put on -/
theorem fq_neg {a b : UInt32} (h : FP.Core.val32 b = FP.Core.negate (FP.Core.val32 a)) (ha : a.toNat ≤ 2139095040) : b = a ||| 2147483648 := by
  have hl : a.toNat < 2 ^ 31 := by omega
  have e : (a ||| 2147483648).toNat = a.toNat + 2 ^ 31 := by
    rw [UInt32.toNat_or]
    show a.toNat ||| 2 ^ 31 = _
    have := Nat.two_pow_add_eq_or_of_lt (i := 31) hl 1
    rw [Nat.mul_one] at this
    rw [Nat.or_comm, ← this, Nat.add_comm]
  have hb : FP.Core.val32 (a ||| 2147483648) = FP.Core.negate (FP.Core.val32 a) := by
    rcases Nat.lt_or_ge a.toNat 2139095040 with g | g
    · rw [fq_fin (a := a) (by omega), fq_fin (by rw [e]; omega), e, decide_eq_true (by omega : 2 ^ 31 ≤ a.toNat + 2 ^ 31), decide_eq_false (by omega : ¬ 2 ^ 31 ≤ a.toNat), show (a.toNat + 2 ^ 31) % 2 ^ 31 = a.toNat % 2 ^ 31 by omega]
      rfl
    · rw [fq_inf (a := a) (by omega), fq_inf (by rw [e]; omega), e, decide_eq_true (by omega : 2 ^ 31 ≤ a.toNat + 2 ^ 31), decide_eq_false (by omega : ¬ 2 ^ 31 ≤ a.toNat)]
      rfl
  refine (fq_eq (hb.trans h.symm) ?_).symm
  rw [e]
  omega
/-- the sign taken off -/
def fq_abs (a : UInt32) : UInt32 := a &&& 2147483647
theorem fq_absn (a : UInt32) : (fq_abs a).toNat = a.toNat % 2 ^ 31 := by
  rw [fq_abs, UInt32.toNat_and]
  exact Nat.and_two_pow_sub_one_eq_mod a.toNat 31
theorem fq_absv {a : UInt32} (h : a.toNat % 2 ^ 31 ≤ 2139095040) : FP.Core.val32 a = if 2 ^ 31 ≤ a.toNat then FP.Core.negate (FP.Core.val32 (fq_abs a)) else FP.Core.val32 (fq_abs a) := by
  have e := fq_absn a
  rcases Nat.lt_or_ge (a.toNat % 2 ^ 31) 2139095040 with g | g
  · rw [fq_fin g, fq_fin (a := fq_abs a) (by rw [e]; omega), e, decide_eq_false (by omega : ¬ 2 ^ 31 ≤ a.toNat % 2 ^ 31), show a.toNat % 2 ^ 31 % 2 ^ 31 = a.toNat % 2 ^ 31 by omega]
    split
    · rename_i k; rw [decide_eq_true k]; rfl
    · rename_i k; rw [decide_eq_false k]
  · rw [fq_inf (a := a) (by omega), fq_inf (a := fq_abs a) (by rw [e]; omega), e, decide_eq_false (by omega : ¬ 2 ^ 31 ≤ a.toNat % 2 ^ 31)]
    split
    · rename_i k; rw [decide_eq_true k]; rfl
    · rename_i k; rw [decide_eq_false k]
def fq_g (a : UInt32) : UInt32 := if a = 2147483648 then 0 else a
theorem fq_z0 : FP.Core.val32 0 = .fin false 0 (-149) := by decide +kernel
theorem fq_z1 : FP.Core.val32 2147483648 = .fin true 0 (-149) := by decide +kernel
/-- a datum of mantissa 0 is a zero -/
theorem fq_zero {x : UInt32} {s : Bool} {q : Int} (h : FP.Core.val32 x = .fin s 0 q) : x = if s then 2147483648 else 0 := by
  have hf := FP.Core.val32_fits x
  rw [h] at hf
  obtain ⟨-, h2, h3, h4⟩ := hf
  rw [qmin32, tails32] at h4
  have hq : q = -149 := h4.resolve_right (by decide)
  subst hq
  have e : FP.Core.val32 (if s then 2147483648 else 0) = FP.Core.val32 x := by
    rw [h]
    cases s
    · exact fq_z0
    · exact fq_z1
  refine (fq_eq e ?_).symm
  cases s <;> decide
/-- what isn't 0 doesn't become 0 by rounding -/
theorem fq_nz {s : Bool} {c : Nat} {q : Int} (hc : c ≠ 0) (hq : -149 ≤ q) {x : UInt32} (h : FP.Core.val32 x = FP.Core.round FP.Core.b32 (.fin s c q)) : x.toNat % 2 ^ 31 ≠ 0 := by
  intro hx
  have hv : FP.Core.zval FP.Core.b32 (FP.Core.val32 x) = 0 := by
    rw [fq_fin (a := x) (by omega), hx]
    show FP.Core.signed _ (0 * _) = 0
    rw [Nat.zero_mul]
    cases decide (2 ^ 31 ≤ x.toNat) <;> rfl
  have h1 : ∀ (s : Bool), s = false → 1 ≤ FP.Core.zval FP.Core.b32 (FP.Core.round FP.Core.b32 (.fin s c q)) := by
    intro s hs
    subst hs
    have hV : FP.Core.zval FP.Core.b32 (.fin false 1 (-149)) = 1 := by decide +kernel
    have := FP.Core.zval_round_ge FP.Core.good_b32 (s := false) (c := c) (q := q) (e0 := -149) (V := .fin false 1 (-149)) (by
      refine ⟨by decide, by rw [qmin32]; omega, by rw [qmax32]; omega, Or.inl qmin32.symm⟩) (fun z => by cases z) (by rw [qmin32]; omega) hq (by
      rw [hV, qmin32]
      show (1 : Int) * 1 ≤ ((c * 2 ^ (q - -149).toNat : Nat) : Int)
      have : 0 < c * 2 ^ (q - -149).toNat := Nat.mul_pos (Nat.pos_of_ne_zero hc) (Nat.two_pow_pos _)
      omega)
    rw [hV] at this
    exact this
  rw [h] at hv
  cases s with
  | false => have := h1 false rfl; omega
  | true =>
    have := h1 false rfl
    have e : FP.Core.round FP.Core.b32 (.fin true c q) = FP.Core.negate (FP.Core.round FP.Core.b32 (.fin false c q)) := (FP.Core.negate_round FP.Core.b32 (.fin false c q)).symm
    rw [e, FP.Core.zval_negate] at hv
    omega
theorem fq_gval {a : UInt32} {s : Bool} {c : Nat} {q : Int} (h : FP.Core.val32 a = .fin s c q) : FP.Core.val32 (fq_g a) = .fin (s && decide (c ≠ 0)) c q := by
  unfold fq_g
  by_cases e : a = 2147483648
  · rw [if_pos e]
    subst e
    rw [fq_z1] at h
    cases h
    exact fq_z0
  · rw [if_neg e, h]
    by_cases hc : c = 0
    · subst hc
      have := fq_zero h
      cases s with
      | false => rfl
      | true => exact absurd this e
    · rw [decide_eq_true hc, Bool.and_true]
theorem fq_sg (s : Bool) (c k : Nat) : FP.Core.signed (s && decide (c ≠ 0)) (c * k) = FP.Core.signed s (c * k) := by
  by_cases hc : c = 0
  · subst hc
    rw [Nat.zero_mul]
    cases s <;> rfl
  · rw [decide_eq_true hc, Bool.and_true]
theorem fq_nn {a : UInt32} {s : Bool} {c : Nat} {q : Int} (h : FP.Core.val32 a = FP.Core.round FP.Core.b32 (.fin s c q)) : FP.Core.val32 a ≠ .nan := by
  rw [h]
  show FP.Core.roundRatio FP.Core.b32 s c 1 q ≠ .nan
  unfold FP.Core.roundRatio FP.Core.roundAt FP.Core.settle FP.Core.bound
  split
  · exact fun z => by cases z
  · split <;> split <;> exact fun z => by cases z
theorem fq_add {a b : UInt32} (ha : a.toNat % 2 ^ 31 < 2139095040) (hb : b.toNat % 2 ^ 31 < 2139095040) :
    ((FP.Core.fadd (fq_g a) (fq_g b)).toNat % 2 ^ 31 = 0 → FP.Core.fadd a b = if a = 2147483648 ∧ b = 2147483648 then 2147483648 else 0) ∧ ((FP.Core.fadd (fq_g a) (fq_g b)).toNat % 2 ^ 31 ≠ 0 → FP.Core.fadd a b = FP.Core.fadd (fq_g a) (fq_g b)) ∧ FP.Core.val32 (FP.Core.fadd (fq_g a) (fq_g b)) ≠ .nan := by
  have va := fq_fin ha
  have vb := fq_fin hb
  generalize decide (2 ^ 31 ≤ a.toNat) = s at va
  generalize hc : fq_m (a.toNat % 2 ^ 31) = c at va
  generalize hq : ((fq_e (a.toNat % 2 ^ 31) : Int) - 150) = q at va
  generalize decide (2 ^ 31 ≤ b.toNat) = t at vb
  generalize hd : fq_m (b.toNat % 2 ^ 31) = d at vb
  generalize hr : ((fq_e (b.toNat % 2 ^ 31) : Int) - 150) = r at vb
  have q1 : -149 ≤ q := by have := fq_e1 (a.toNat % 2 ^ 31); omega
  have r1 : -149 ≤ r := by have := fq_e1 (b.toNat % 2 ^ 31); omega
  have e1 : FP.Core.val32 (FP.Core.fadd a b) = FP.Core.round FP.Core.b32 (.fin (FP.Core.sumSign s t (FP.Core.sumUnits s c q t d r (min q r))) (FP.Core.sumUnits s c q t d r (min q r)).natAbs (min q r)) := by
    rw [FP.Core.val32_fadd, va, vb]
    rfl
  have e3 : FP.Core.sumUnits (s && decide (c ≠ 0)) c q (t && decide (d ≠ 0)) d r (min q r) = FP.Core.sumUnits s c q t d r (min q r) := by
    unfold FP.Core.sumUnits FP.Core.inUnits
    rw [fq_sg, fq_sg]
  have e2 : FP.Core.val32 (FP.Core.fadd (fq_g a) (fq_g b)) = FP.Core.round FP.Core.b32 (.fin (FP.Core.sumSign (s && decide (c ≠ 0)) (t && decide (d ≠ 0)) (FP.Core.sumUnits s c q t d r (min q r))) (FP.Core.sumUnits s c q t d r (min q r)).natAbs (min q r)) := by
    rw [FP.Core.val32_fadd, fq_gval va, fq_gval vb]
    show FP.Core.round FP.Core.b32 (.fin (FP.Core.sumSign _ _ (FP.Core.sumUnits _ _ _ _ _ _ _)) (FP.Core.sumUnits _ _ _ _ _ _ _).natAbs _) = _
    rw [e3]
  have hn := fq_nn e2
  by_cases hv : FP.Core.sumUnits s c q t d r (min q r) = 0
  · rw [hv] at e1 e2
    have z1 : FP.Core.val32 (FP.Core.fadd a b) = .fin (s && t) 0 (-149) := by rw [e1]; show FP.Core.roundRatio FP.Core.b32 (s && t) 0 1 _ = _; rw [FP.Core.roundRatio, if_pos rfl, qmin32]
    have z2 : FP.Core.val32 (FP.Core.fadd (fq_g a) (fq_g b)) = .fin ((s && decide (c ≠ 0)) && (t && decide (d ≠ 0))) 0 (-149) := by rw [e2]; show FP.Core.roundRatio FP.Core.b32 _ 0 1 _ = _; rw [FP.Core.roundRatio, if_pos rfl, qmin32]; rfl
    have y1 := fq_zero z1
    have y2 := fq_zero z2
    refine ⟨fun _ => ?_, fun h => ?_, hn⟩
    · rw [y1]
      by_cases hst : (s && t) = true
      · rw [if_pos hst]
        obtain ⟨rfl, rfl⟩ : s = true ∧ t = true := by simpa using hst
        have h0 : -((c * 2 ^ (q - min q r).toNat : Nat) : Int) + -((d * 2 ^ (r - min q r).toNat : Nat) : Int) = 0 := hv
        have c0 : c = 0 := by
          rcases Nat.mul_eq_zero.mp (show c * 2 ^ (q - min q r).toNat = 0 by omega) with g | g
          · exact g
          · exact absurd g (Nat.ne_of_gt (Nat.two_pow_pos _))
        have d0 : d = 0 := by
          rcases Nat.mul_eq_zero.mp (show d * 2 ^ (r - min q r).toNat = 0 by omega) with g | g
          · exact g
          · exact absurd g (Nat.ne_of_gt (Nat.two_pow_pos _))
        subst c0; subst d0
        rw [if_pos ⟨fq_zero va, fq_zero vb⟩]
      · rw [if_neg hst, if_neg ?_]
        rintro ⟨rfl, rfl⟩
        rw [fq_z1] at va vb
        cases va
        cases vb
        exact hst rfl
    · exfalso
      apply h
      rw [y2]
      cases ((s && decide (c ≠ 0)) && (t && decide (d ≠ 0))) <;> decide
  · have hs : FP.Core.sumSign (s && decide (c ≠ 0)) (t && decide (d ≠ 0)) (FP.Core.sumUnits s c q t d r (min q r)) = FP.Core.sumSign s t (FP.Core.sumUnits s c q t d r (min q r)) := by
      unfold FP.Core.sumSign
      rw [if_neg hv, if_neg hv]
    rw [hs] at e2
    have hne := fq_nz (by omega) (by omega) e2
    exact ⟨fun h => absurd h hne, fun _ => (FP.Core.val32_inj hn (e2.trans e1.symm)).symm, hn⟩
/-- 0 less what is below 0 -/
theorem fq_0sub {f : UInt32} (h1 : 2 ^ 31 < f.toNat) (h2 : f.toNat % 2 ^ 31 ≤ 2139095040) : FP.Core.fsub 0 f = fq_abs f := by
  have ha := fq_absn f
  have hlt := f.toNat_lt
  refine (fq_eq ?_ (by rw [ha]; omega)).symm
  rw [FP.Core.val32_fsub, fq_z0, fq_absv h2, if_pos (by omega), FP.Core.negate_negate]
  rcases Nat.lt_or_ge (f.toNat % 2 ^ 31) 2139095040 with g | g
  · have hv := fq_fin (a := fq_abs f) (by rw [ha]; omega)
    have hff := FP.Core.val32_fits (fq_abs f)
    rw [ha] at hv
    rw [decide_eq_false (by omega : ¬ 2 ^ 31 ≤ f.toNat % 2 ^ 31)] at hv
    generalize hc : fq_m (f.toNat % 2 ^ 31 % 2 ^ 31) = c at hv
    generalize hq : ((fq_e (f.toNat % 2 ^ 31 % 2 ^ 31) : Int) - 150) = q at hv
    have q1 : -149 ≤ q := by have := fq_e1 (f.toNat % 2 ^ 31 % 2 ^ 31); omega
    have hc0 : c ≠ 0 := by
      rw [← hc]
      intro z
      have := fq_m0.mp z
      omega
    rw [hv] at hff ⊢
    show _ = FP.Core.round FP.Core.b32 (.fin (FP.Core.sumSign false false (FP.Core.sumUnits false 0 (-149) false c q (min (-149) q))) (FP.Core.sumUnits false 0 (-149) false c q (min (-149) q)).natAbs (min (-149) q))
    have e0 : min (-149) q = -149 := by omega
    have e1 : FP.Core.sumUnits false 0 (-149) false c q (-149) = ((c * 2 ^ (q - -149).toNat : Nat) : Int) := by
      show ((0 * _ : Nat) : Int) + ((c * 2 ^ (q - -149).toNat : Nat) : Int) = _
      rw [Nat.zero_mul]
      omega
    rw [e0, e1]
    have hp : 0 < c * 2 ^ (q - -149).toNat := Nat.mul_pos (Nat.pos_of_ne_zero hc0) (Nat.two_pow_pos _)
    have e2 : FP.Core.sumSign false false ((c * 2 ^ (q - -149).toNat : Nat) : Int) = false := by
      unfold FP.Core.sumSign
      rw [if_neg (by omega), decide_eq_false (by omega)]
    rw [e2, Int.natAbs_natCast]
    refine (FP.Core.roundRatio_exact FP.Core.good_b32 (by decide) hff ?_).symm
    rw [Nat.mul_one, show ((-149 : Int) - q).toNat = 0 by omega, Nat.pow_zero, Nat.mul_one]
  · rw [fq_inf (a := fq_abs f) (by rw [ha]; omega)]
    rfl
theorem fq_cmp0 {f : UInt32} (h : f.toNat % 2 ^ 31 ≤ 2139095040) : FP.Core.fcmp f 0 = some (if f.toNat % 2 ^ 31 = 0 then .eq else if 2 ^ 31 ≤ f.toNat then .lt else .gt) := by
  have hn : FP.Core.val32 f ≠ .nan := by
    rcases Nat.lt_or_ge (f.toNat % 2 ^ 31) 2139095040 with g | g
    · rw [fq_fin g]; exact fun z => by cases z
    · rw [fq_inf (by omega)]; exact fun z => by cases z
  have h0 : FP.Core.val32 0 ≠ .nan := by rw [fq_z0]; exact fun z => by cases z
  have hk0 : FP.Core.fkey 0 = 0 := by decide
  have hlt := f.toNat_lt
  by_cases g : f.toNat % 2 ^ 31 = 0
  · rw [if_pos g]
    refine (FP.Core.fcmp_eq_key hn h0).mpr ?_
    rw [hk0]
    unfold FP.Core.fkey
    split <;> omega
  · rw [if_neg g]
    by_cases k : 2 ^ 31 ≤ f.toNat
    · rw [if_pos k]
      refine (FP.Core.fcmp_lt_key hn h0).mpr ?_
      rw [hk0]
      unfold FP.Core.fkey
      rw [if_pos k]
      omega
    · rw [if_neg k]
      refine (FP.Core.fcmp_gt_key hn h0).mpr ?_
      rw [hk0]
      unfold FP.Core.fkey
      rw [if_neg k]
      omega
def fq_s (a : UInt32) : Bool := decide (2 ^ 31 ≤ a.toNat)
theorem fq_tb {n : Nat} (h : n < 2 ^ 32) : n.testBit 31 = decide (2 ^ 31 ≤ n) := by
  rw [Nat.testBit_eq_decide_div_mod_eq]
  by_cases g : 2 ^ 31 ≤ n
  · rw [decide_eq_true g, decide_eq_true (by omega)]
  · rw [decide_eq_false g, decide_eq_false (by omega)]
theorem fq_and (x : Nat) : x &&& 2 ^ 31 = if x.testBit 31 = true then 2 ^ 31 else 0 := by
  apply Nat.eq_of_testBit_eq
  intro i
  rw [Nat.testBit_and, Nat.testBit_two_pow]
  by_cases h : 31 = i
  · subst h
    cases hx : x.testBit 31
    · rw [if_neg (by decide)]; simp
    · rw [if_pos rfl]; decide
  · rw [decide_eq_false h, Bool.and_false]
    split
    · rw [Nat.testBit_two_pow, decide_eq_false h]
    · simp
theorem fq_sign (a b : UInt32) : (a ^^^ b) &&& 2147483648 = if (fq_s a != fq_s b) then 2147483648 else 0 := by
  apply UInt32.toNat_inj.mp
  rw [UInt32.toNat_and, UInt32.toNat_xor]
  show (a.toNat ^^^ b.toNat) &&& 2 ^ 31 = _
  rw [fq_and, Nat.testBit_xor, fq_tb a.toNat_lt, fq_tb b.toNat_lt]
  show (if (fq_s a ^^ fq_s b) = true then 2 ^ 31 else 0) = _
  cases fq_s a <;> cases fq_s b <;> rfl
theorem fq_or0 (a : UInt32) : a ||| 0 = a := by simp
theorem fq_0or (a : UInt32) : 0 ||| a = a := by simp
theorem fq_of32n : FP.Core.of32 .nan = 2143289344 := by decide +kernel
theorem fq_sgn_abs (a : UInt32) : fq_s (fq_abs a) = false := by
  unfold fq_s
  rw [fq_absn, decide_eq_false (by omega)]
/-- a number without a sign, rounded -/
theorem fq_pos {x : UInt32} {A B : Nat} {e : Int} (h : FP.Core.val32 x = FP.Core.roundRatio FP.Core.b32 false A B e) : x.toNat ≤ 2139095040 := by
  have hx := x.toNat_lt
  have hs : FP.Core.val32 x ≠ .nan ∧ FP.Core.sgn (FP.Core.val32 x) = false := by
    rw [h]
    unfold FP.Core.roundRatio FP.Core.roundAt FP.Core.settle FP.Core.bound
    split
    · exact ⟨(fun z => by cases z), rfl⟩
    · split <;> split <;> exact ⟨(fun z => by cases z), rfl⟩
  have hn := fq_num hs.1
  have h2 := hs.2
  rcases Nat.lt_or_ge (x.toNat % 2 ^ 31) 2139095040 with g | g
  · rw [fq_fin g] at h2
    have : ¬ 2 ^ 31 ≤ x.toNat := of_decide_eq_false h2
    omega
  · rw [fq_inf (by omega)] at h2
    have : ¬ 2 ^ 31 ≤ x.toNat := of_decide_eq_false h2
    omega
theorem fq_mulf {a b : UInt32} (ha : a.toNat % 2 ^ 31 < 2139095040) (hb : b.toNat % 2 ^ 31 < 2139095040) : (FP.Core.fmul (fq_abs a) (fq_abs b)).toNat ≤ 2139095040 ∧ FP.Core.fmul a b = ((a ^^^ b) &&& 2147483648) ||| FP.Core.fmul (fq_abs a) (fq_abs b) := by
  have va := fq_fin (a := fq_abs a) (by rw [fq_absn]; omega)
  have vb := fq_fin (a := fq_abs b) (by rw [fq_absn]; omega)
  rw [show decide (2 ^ 31 ≤ (fq_abs a).toNat) = false from fq_sgn_abs a] at va
  rw [show decide (2 ^ 31 ≤ (fq_abs b).toNat) = false from fq_sgn_abs b] at vb
  have e := FP.Core.val32_fmul (fq_abs a) (fq_abs b)
  rw [va, vb] at e
  change FP.Core.val32 (FP.Core.fmul (fq_abs a) (fq_abs b)) = FP.Core.roundRatio FP.Core.b32 false (_ * _) 1 (_ + _) at e
  have hp := fq_pos e
  refine ⟨hp, ?_⟩
  have na := fq_absv (a := a) (by omega)
  have nb := fq_absv (a := b) (by omega)
  have hnn : FP.Core.val32 (FP.Core.fmul (fq_abs a) (fq_abs b)) ≠ .nan := fq_nn (s := false) e
  rw [fq_sign]
  unfold fq_s
  by_cases sa : 2 ^ 31 ≤ a.toNat
  · rw [if_pos sa] at na
    by_cases sb : 2 ^ 31 ≤ b.toNat
    · rw [if_pos sb] at nb
      rw [decide_eq_true sa, decide_eq_true sb, if_neg (by decide), fq_0or]
      refine (FP.Core.val32_inj hnn ?_).symm
      rw [FP.Core.val32_fmul, FP.Core.val32_fmul, na, nb, FP.Core.exactProduct_negate, FP.Core.exactProduct_comm _ (FP.Core.negate _), FP.Core.exactProduct_negate, FP.Core.negate_negate, FP.Core.exactProduct_comm]
    · rw [if_neg sb] at nb
      rw [decide_eq_true sa, decide_eq_false sb, if_pos (by decide), UInt32.or_comm]
      refine fq_neg ?_ hp
      rw [FP.Core.val32_fmul, FP.Core.val32_fmul, na, nb, FP.Core.exactProduct_negate, FP.Core.negate_round]
  · rw [if_neg sa] at na
    by_cases sb : 2 ^ 31 ≤ b.toNat
    · rw [if_pos sb] at nb
      rw [decide_eq_false sa, decide_eq_true sb, if_pos (by decide), UInt32.or_comm]
      refine fq_neg ?_ hp
      rw [FP.Core.val32_fmul, FP.Core.val32_fmul, na, nb, FP.Core.exactProduct_comm _ (FP.Core.negate _), FP.Core.exactProduct_negate, FP.Core.negate_round, FP.Core.exactProduct_comm]
    · rw [if_neg sb] at nb
      rw [decide_eq_false sa, decide_eq_false sb, if_neg (by decide), fq_0or]
      refine (FP.Core.val32_inj hnn ?_).symm
      rw [FP.Core.val32_fmul, FP.Core.val32_fmul, na, nb]
theorem fq_infb (s : Bool) : FP.Core.of32 (.inf s) = (if s then 2147483648 else 0) ||| 2139095040 := by cases s <;> decide +kernel
theorem fq_infs {a b : UInt32} : FP.Core.of32 (.inf (fq_s a != fq_s b)) = ((a ^^^ b) &&& 2147483648) ||| 2139095040 := by
  rw [fq_sign, fq_infb]
/-- an infinite factor -/
theorem fq_muli {a b : UInt32} (ha : a.toNat % 2 ^ 31 = 2139095040) (hb : b.toNat % 2 ^ 31 ≤ 2139095040) (h0 : b.toNat % 2 ^ 31 ≠ 0) : FP.Core.fmul a b = ((a ^^^ b) &&& 2147483648) ||| 2139095040 := by
  rw [← fq_infs]
  show FP.Core.of32 (FP.Core.round FP.Core.b32 (FP.Core.exactProduct (FP.Core.val32 a) (FP.Core.val32 b))) = _
  rw [fq_inf ha]
  rcases Nat.lt_or_ge (b.toNat % 2 ^ 31) 2139095040 with g | g
  · rw [fq_fin g]
    show FP.Core.of32 (FP.Core.round FP.Core.b32 (if fq_m (b.toNat % 2 ^ 31) = 0 then .nan else .inf (fq_s a != fq_s b))) = _
    rw [if_neg (fun z => h0 (fq_m0.mp z))]
    rfl
  · rw [fq_inf (a := b) (by omega)]
    rfl
theorem fq_xor_comm (a b : UInt32) : a ^^^ b = b ^^^ a := UInt32.xor_comm a b
theorem fq_muli' {a b : UInt32} (hb : b.toNat % 2 ^ 31 = 2139095040) (ha : a.toNat % 2 ^ 31 ≤ 2139095040) (h0 : a.toNat % 2 ^ 31 ≠ 0) : FP.Core.fmul a b = ((a ^^^ b) &&& 2147483648) ||| 2139095040 := by
  rw [FP.Core.fmul_comm, UInt32.xor_comm]
  exact fq_muli hb ha h0
theorem fq_muln {a b : UInt32} (h : 2139095040 < a.toNat % 2 ^ 31 ∨ 2139095040 < b.toNat % 2 ^ 31 ∨ (a.toNat % 2 ^ 31 = 2139095040 ∧ b.toNat % 2 ^ 31 = 0) ∨ (a.toNat % 2 ^ 31 = 0 ∧ b.toNat % 2 ^ 31 = 2139095040)) : FP.Core.fmul a b = 2143289344 := by
  rw [← fq_of32n]
  show FP.Core.of32 (FP.Core.round FP.Core.b32 (FP.Core.exactProduct (FP.Core.val32 a) (FP.Core.val32 b))) = _
  have hz : ∀ n : Nat, n = 0 → fq_m n = 0 := fun n h => fq_m0.mpr h
  rcases h with h | h | ⟨h, g⟩ | ⟨h, g⟩
  · rw [fq_nan h]; rfl
  · rw [fq_nan (a := b) h]
    cases FP.Core.val32 a <;> rfl
  · rw [fq_inf h, fq_fin (a := b) (by omega)]
    show FP.Core.of32 (FP.Core.round FP.Core.b32 (if fq_m (b.toNat % 2 ^ 31) = 0 then .nan else _)) = _
    rw [if_pos (hz _ g)]
    rfl
  · rw [fq_inf (a := b) g, fq_fin (a := a) (by omega)]
    show FP.Core.of32 (FP.Core.round FP.Core.b32 (if fq_m (a.toNat % 2 ^ 31) = 0 then .nan else _)) = _
    rw [if_pos (hz _ h)]
    rfl
theorem fq_quo_neg2 (f : FP.Core.Fmt) (x y : FP.Core.Datum) : FP.Core.quotient f x (FP.Core.negate y) = FP.Core.negate (FP.Core.quotient f x y) := by
  cases x <;> cases y <;> try rfl
  · rename_i s t d r
    show FP.Core.Datum.inf (s != !t) = FP.Core.Datum.inf (!(s != t))
    cases s <;> cases t <;> rfl
  · rename_i s c q t
    show FP.Core.Datum.fin (s != !t) 0 f.qmin = FP.Core.Datum.fin (!(s != t)) 0 f.qmin
    cases s <;> cases t <;> rfl
  · rename_i s c q t d r
    show (if d = 0 then (if c = 0 then FP.Core.Datum.nan else .inf (s != !t)) else FP.Core.roundRatio f (s != !t) c d (q - r)) = FP.Core.negate (if d = 0 then (if c = 0 then FP.Core.Datum.nan else .inf (s != t)) else FP.Core.roundRatio f (s != t) c d (q - r))
    have e : (s != !t) = !(s != t) := by cases s <;> cases t <;> rfl
    rw [e]
    split
    · split <;> rfl
    · exact (FP.Core.negate_roundRatio f (s != t) c d (q - r)).symm
theorem fq_divf {a b : UInt32} (ha : a.toNat % 2 ^ 31 < 2139095040) (hb : b.toNat % 2 ^ 31 < 2139095040) (h0 : b.toNat % 2 ^ 31 ≠ 0) : (FP.Core.fdiv (fq_abs a) (fq_abs b)).toNat ≤ 2139095040 ∧ FP.Core.fdiv a b = ((a ^^^ b) &&& 2147483648) ||| FP.Core.fdiv (fq_abs a) (fq_abs b) := by
  have va := fq_fin (a := fq_abs a) (by rw [fq_absn]; omega)
  have vb := fq_fin (a := fq_abs b) (by rw [fq_absn]; omega)
  rw [show decide (2 ^ 31 ≤ (fq_abs a).toNat) = false from fq_sgn_abs a] at va
  rw [show decide (2 ^ 31 ≤ (fq_abs b).toNat) = false from fq_sgn_abs b] at vb
  have hd : fq_m ((fq_abs b).toNat % 2 ^ 31) ≠ 0 := by
    intro z
    have := fq_m0.mp z
    rw [fq_absn] at this
    omega
  have e := FP.Core.val32_fdiv (fq_abs a) (fq_abs b)
  rw [va, vb, FP.Core.quotient, if_neg hd] at e
  change FP.Core.val32 (FP.Core.fdiv (fq_abs a) (fq_abs b)) = FP.Core.roundRatio FP.Core.b32 false _ _ _ at e
  have hp := fq_pos e
  refine ⟨hp, ?_⟩
  have na := fq_absv (a := a) (by omega)
  have nb := fq_absv (a := b) (by omega)
  have hnn : FP.Core.val32 (FP.Core.fdiv (fq_abs a) (fq_abs b)) ≠ .nan := by
    rw [e]
    unfold FP.Core.roundRatio FP.Core.roundAt FP.Core.settle FP.Core.bound
    split
    · exact fun z => by cases z
    · split <;> split <;> exact fun z => by cases z
  rw [fq_sign]
  unfold fq_s
  by_cases sa : 2 ^ 31 ≤ a.toNat
  · rw [if_pos sa] at na
    by_cases sb : 2 ^ 31 ≤ b.toNat
    · rw [if_pos sb] at nb
      rw [decide_eq_true sa, decide_eq_true sb, if_neg (by decide), fq_0or]
      refine (FP.Core.val32_inj hnn ?_).symm
      rw [FP.Core.val32_fdiv, FP.Core.val32_fdiv, na, nb, FP.Core.quotient_negate, fq_quo_neg2, FP.Core.negate_negate]
    · rw [if_neg sb] at nb
      rw [decide_eq_true sa, decide_eq_false sb, if_pos (by decide), UInt32.or_comm]
      refine fq_neg ?_ hp
      rw [FP.Core.val32_fdiv, FP.Core.val32_fdiv, na, nb, FP.Core.quotient_negate]
  · rw [if_neg sa] at na
    by_cases sb : 2 ^ 31 ≤ b.toNat
    · rw [if_pos sb] at nb
      rw [decide_eq_false sa, decide_eq_true sb, if_pos (by decide), UInt32.or_comm]
      refine fq_neg ?_ hp
      rw [FP.Core.val32_fdiv, FP.Core.val32_fdiv, na, nb, fq_quo_neg2]
    · rw [if_neg sb] at nb
      rw [decide_eq_false sa, decide_eq_false sb, if_neg (by decide), fq_0or]
      refine (FP.Core.val32_inj hnn ?_).symm
      rw [FP.Core.val32_fdiv, FP.Core.val32_fdiv, na, nb]
theorem fq_fins (s : Bool) : FP.Core.of32 (.fin s 0 FP.Core.b32.qmin) = if s then 2147483648 else 0 := by cases s <;> decide +kernel
theorem fq_divn {a b : UInt32} (h : 2139095040 < a.toNat % 2 ^ 31 ∨ 2139095040 < b.toNat % 2 ^ 31 ∨ (a.toNat % 2 ^ 31 = 2139095040 ∧ b.toNat % 2 ^ 31 = 2139095040) ∨ (a.toNat % 2 ^ 31 = 0 ∧ b.toNat % 2 ^ 31 = 0)) : FP.Core.fdiv a b = 2143289344 := by
  rw [← fq_of32n]
  show FP.Core.of32 (FP.Core.quotient FP.Core.b32 (FP.Core.val32 a) (FP.Core.val32 b)) = _
  have hz : ∀ n : Nat, n = 0 → fq_m n = 0 := fun n h => fq_m0.mpr h
  rcases h with h | h | ⟨h, g⟩ | ⟨h, g⟩
  · rw [fq_nan h]; rfl
  · rw [fq_nan (a := b) h]
    cases FP.Core.val32 a <;> rfl
  · rw [fq_inf h, fq_inf (a := b) g]
    rfl
  · rw [fq_fin (a := a) (by omega), fq_fin (a := b) (by omega), FP.Core.quotient, if_pos (hz _ g), if_pos (hz _ h)]
/-- infinite, or over 0 -/
theorem fq_divi {a b : UInt32} (h : (a.toNat % 2 ^ 31 = 2139095040 ∧ b.toNat % 2 ^ 31 < 2139095040) ∨ (a.toNat % 2 ^ 31 < 2139095040 ∧ a.toNat % 2 ^ 31 ≠ 0 ∧ b.toNat % 2 ^ 31 = 0)) : FP.Core.fdiv a b = ((a ^^^ b) &&& 2147483648) ||| 2139095040 := by
  rw [← fq_infs]
  show FP.Core.of32 (FP.Core.quotient FP.Core.b32 (FP.Core.val32 a) (FP.Core.val32 b)) = _
  rcases h with ⟨h, g⟩ | ⟨h, k, g⟩
  · rw [fq_inf h, fq_fin (a := b) g]
    rfl
  · rw [fq_fin (a := a) h, fq_fin (a := b) (by omega), FP.Core.quotient, if_pos (fq_m0.mpr g), if_neg (fun z => k (fq_m0.mp z))]
    rfl
/-- under something infinite, or 0 -/
theorem fq_divz {a b : UInt32} (h : (b.toNat % 2 ^ 31 = 2139095040 ∧ a.toNat % 2 ^ 31 < 2139095040) ∨ (b.toNat % 2 ^ 31 < 2139095040 ∧ b.toNat % 2 ^ 31 ≠ 0 ∧ a.toNat % 2 ^ 31 = 0)) : FP.Core.fdiv a b = ((a ^^^ b) &&& 2147483648) := by
  rw [fq_sign, ← fq_fins]
  show FP.Core.of32 (FP.Core.quotient FP.Core.b32 (FP.Core.val32 a) (FP.Core.val32 b)) = _
  rcases h with ⟨h, g⟩ | ⟨h, k, g⟩
  · rw [fq_inf (a := b) h, fq_fin (a := a) g]
    rfl
  · rw [fq_fin (a := b) h, fq_fin (a := a) (by omega), FP.Core.quotient, if_neg (fun z => k (fq_m0.mp z)), fq_m0.mpr g, FP.Core.roundRatio, if_pos rfl]
    rfl
theorem fq_addn {a b : UInt32} (h : 2139095040 < a.toNat % 2 ^ 31 ∨ 2139095040 < b.toNat % 2 ^ 31 ∨ (a.toNat % 2 ^ 31 = 2139095040 ∧ b.toNat % 2 ^ 31 = 2139095040 ∧ a ≠ b)) : FP.Core.fadd a b = 2143289344 := by
  rw [← fq_of32n]
  show FP.Core.of32 (FP.Core.round FP.Core.b32 (FP.Core.exactSum (FP.Core.val32 a) (FP.Core.val32 b))) = _
  rcases h with h | h | ⟨h, g, k⟩
  · rw [fq_nan h]; rfl
  · rw [fq_nan (a := b) h]
    cases FP.Core.val32 a <;> rfl
  · rw [fq_inf h, fq_inf (a := b) g]
    show FP.Core.of32 (FP.Core.round FP.Core.b32 (if decide (2 ^ 31 ≤ a.toNat) = decide (2 ^ 31 ≤ b.toNat) then _ else .nan)) = _
    rw [if_neg ?_]
    · rfl
    · intro z
      apply k
      have ha := a.toNat_lt
      have hb := b.toNat_lt
      apply UInt32.toNat_inj.mp
      have : (2 ^ 31 ≤ a.toNat) ↔ (2 ^ 31 ≤ b.toNat) := decide_eq_decide.mp z
      omega
theorem fq_addi {a b : UInt32} (h : a.toNat % 2 ^ 31 = 2139095040) (g : b.toNat % 2 ^ 31 < 2139095040 ∨ a = b) : FP.Core.fadd a b = a := by
  have hn : FP.Core.val32 a ≠ .nan := by rw [fq_inf h]; exact fun z => by cases z
  refine (FP.Core.val32_inj hn ?_).symm
  rw [FP.Core.val32_fadd, fq_inf h]
  rcases g with g | g
  · rw [fq_fin (a := b) g]
    rfl
  · subst g
    rw [fq_inf h]
    show _ = FP.Core.round FP.Core.b32 (if _ = _ then _ else _)
    rw [if_pos rfl]
    rfl
theorem fq_i2f_nz (w : Int32) : FP.Core.i2f w ≠ 2147483648 ∧ (FP.Core.i2f w).toNat % 2 ^ 31 < 2139095040 := by
  have hf := (FP.Core.fin_bits32 (FP.Core.i2f w)).mp (FP.Core.i2f_fin w)
  refine ⟨?_, hf⟩
  intro h
  have hv := FP.Core.val32_i2f w
  have e : FP.Core.ofInt w.toInt = .fin (decide (w.toInt < 0)) w.toInt.natAbs 0 := rfl
  rw [e] at hv
  by_cases h0 : w.toInt.natAbs = 0
  · rw [h0, h, fq_z1] at hv
    have : w.toInt = 0 := by omega
    rw [this] at hv
    exact absurd hv (by decide +kernel)
  · have := fq_nz h0 (by omega) hv
    rw [h] at this
    exact this (by decide)
theorem dq_three : FP.Core.val64 4613937818241073152 = .fin false (3 * 2 ^ 51) (-51) := by decide +kernel
theorem dq_third {y : UInt64} {W : Nat} (h : PZ y W) (h1 : 3 * 2 ^ 874 ≤ W) (h2 : W ≤ 2 ^ 1250) : ∃ (c : Nat) (q : Int), FP.Core.val64 (FP.Core.ddiv y 4613937818241073152) = .fin false c q ∧ 2 ^ 52 ≤ c ∧ c < 2 ^ 53 ∧ -300 ≤ q ∧ q ≤ 300 := by
  obtain ⟨c, q, v1, v2⟩ := h
  have hff := FP.Core.val64_fits y
  rw [v1] at hff
  have f2 := hff.2.1
  rw [qmin64] at f2
  have e : FP.Core.val64 (FP.Core.ddiv y 4613937818241073152) = FP.Core.roundRatio FP.Core.b64 false c (3 * 2 ^ 51) (q - (-51)) := by
    rw [FP.Core.val64_ddiv, v1, dq_three, FP.Core.quotient, if_neg (by decide)]
    rfl
  have hu : FP.Core.inUnits c (q - (-51)) (-1074) = W * 2 ^ 51 := by
    rw [← v2]
    show c * 2 ^ (q - -51 - -1074).toNat = _
    rw [show (q - -51 - -1074).toNat = (q + 1074).toNat + 51 by omega, Nat.pow_add, Nat.mul_assoc]
  have q0 : (FP.Core.b64.qmin - -1074).toNat = 0 := by rw [qmin64]; rfl
  have lo : FP.Core.zmag FP.Core.b64 (.fin false (2 ^ 52) (-252)) = 2 ^ 874 := by
    show 2 ^ 52 * 2 ^ (-252 - FP.Core.b64.qmin).toNat = _
    rw [qmin64, ← Nat.pow_add]
    rfl
  have hi : FP.Core.zmag FP.Core.b64 (.fin false (2 ^ 52) 148) = 2 ^ 1274 := by
    show 2 ^ 52 * 2 ^ ((148 : Int) - FP.Core.b64.qmin).toNat = _
    rw [qmin64, ← Nat.pow_add]
    rfl
  have g1 := FP.Core.zmag_roundRatio_ge FP.Core.good_b64 (s := false) (A := c) (B := 3 * 2 ^ 51) (e := q - (-51)) (e0 := -1074) (V := .fin false (2 ^ 52) (-252)) (by decide) ⟨by decide, by rw [qmin64]; omega, by rw [qmax64]; omega, Or.inr (by rw [tails64]; exact Nat.le_refl _)⟩ (by rw [qmin64]; omega) (by omega) (by
    rw [hu, lo, q0, Nat.pow_zero, Nat.mul_one, ← Nat.mul_assoc]
    refine Nat.mul_le_mul_right _ ?_
    rw [Nat.mul_comm]
    exact h1)
  have g2 := FP.Core.zmag_roundRatio_le FP.Core.good_b64 (s := false) (A := c) (B := 3 * 2 ^ 51) (e := q - (-51)) (e0 := -1074) (V := .fin false (2 ^ 52) 148) (by decide) ⟨by decide, by rw [qmin64]; omega, by rw [qmax64]; omega, Or.inr (by rw [tails64]; exact Nat.le_refl _)⟩ (fun z => by cases z) (by rw [qmin64]; omega) (by omega) (by
    rw [hu, hi, q0, Nat.pow_zero, Nat.mul_one, ← Nat.mul_assoc]
    refine Nat.mul_le_mul_right _ ?_
    refine Nat.le_trans h2 ?_
    refine Nat.le_trans (Nat.pow_le_pow_right (by decide) (show 1250 ≤ 1274 by decide)) ?_
    exact Nat.le_mul_of_pos_right _ (by decide))
  rw [lo] at g1
  rw [hi] at g2
  rw [← e] at g1 g2
  have hf := FP.Core.val64_fits (FP.Core.ddiv y 4613937818241073152)
  rcases FP.Core.roundRatio_cases FP.Core.b64 false c (3 * 2 ^ 51) (q - (-51)) with ⟨c', q', hR⟩ | hR
  · rw [← e] at hR
    rw [hR] at g1 g2 hf
    obtain ⟨k1, k2, k3, k4⟩ := hf
    rw [qmin64] at k2 k4
    rw [tails64] at k4
    have k1' : c' < 2 ^ 53 := k1
    have z : FP.Core.zmag FP.Core.b64 (.fin false c' q') = c' * 2 ^ (q' + 1074).toNat := by
      show c' * 2 ^ (q' - FP.Core.b64.qmin).toNat = _
      rw [qmin64, ← pz_1074]
    rw [z] at g1 g2
    have l1 : -300 ≤ q' := by
      rcases Int.lt_or_le q' (-300) with g | g
      · exfalso
        have a1 : c' * 2 ^ (q' + 1074).toNat < 2 ^ 53 * 2 ^ (q' + 1074).toNat := Nat.mul_lt_mul_of_pos_right k1' (Nat.two_pow_pos _)
        have a2 : 2 ^ 53 * 2 ^ (q' + 1074).toNat ≤ 2 ^ 53 * 2 ^ 774 := Nat.mul_le_mul_left _ (Nat.pow_le_pow_right (by decide) (by omega))
        have a3 : 2 ^ 53 * 2 ^ 774 ≤ 2 ^ 874 := by rw [← Nat.pow_add]; exact Nat.pow_le_pow_right (by decide) (by decide)
        omega
      · exact g
    have c52 : 2 ^ 52 ≤ c' := k4.resolve_left (by omega)
    refine ⟨c', q', hR, c52, k1', l1, ?_⟩
    rcases Int.lt_or_le 300 q' with g | g
    · exfalso
      have a1 : 2 ^ 52 * 2 ^ 1374 ≤ c' * 2 ^ (q' + 1074).toNat := Nat.mul_le_mul c52 (Nat.pow_le_pow_right (by decide) (by omega))
      have a3 : 2 ^ 1274 < 2 ^ 52 * 2 ^ 1374 := by rw [← Nat.pow_add]; exact Nat.pow_lt_pow_right (by decide) (by decide)
      omega
    · exact g
  · exfalso
    rw [← e] at hR
    rw [hR] at g2
    have t : FP.Core.zmag FP.Core.b64 (.inf false) = 2 ^ 52 * 2 ^ 2046 := by
      show FP.Core.b64.tails * 2 ^ (FP.Core.b64.exps - 2) = _
      rw [tails64, show FP.Core.b64.exps - 2 = 2046 by decide +kernel]
    rw [t] at g2
    have a3 : 2 ^ 1274 < 2 ^ 52 * 2 ^ 2046 := by rw [← Nat.pow_add]; exact Nat.pow_lt_pow_right (by decide) (by decide)
    omega
/-- the bits of a double of 53 digits -/
theorem dq_bits {x : UInt64} {s : Bool} {c : Nat} {q : Int} (h : FP.Core.val64 x = .fin s c q) (hc : 2 ^ 52 ≤ c) : x.toNat = (if s then 2 ^ 63 else 0) + ((q + 1074).toNat * 2 ^ 52 + c) := by
  have hf := FP.Core.val64_fits x
  rw [h] at hf
  obtain ⟨k1, k2, k3, -⟩ := hf
  rw [qmin64] at k2
  rw [qmax64] at k3
  have k1' : c < 2 ^ 53 := k1
  have e := FP.Core.of64_val64 (a := x) (by rw [h]; exact fun z => by cases z)
  rw [h] at e
  rw [← e]
  show (UInt64.ofNat (FP.Core.encode FP.Core.b64 (.fin s c q))).toNat = _
  have h1 : FP.Core.encode FP.Core.b64 (.fin s c q) = (s.toNat * 2048 + ((q - -1074).toNat + 1)) * 2 ^ 52 + (c - 2 ^ 52) := by
    show (if c < FP.Core.b64.tails then _ else (s.toNat * FP.Core.b64.exps + ((q - FP.Core.b64.qmin).toNat + 1)) * FP.Core.b64.tails + (c - FP.Core.b64.tails)) = _
    rw [tails64, qmin64, if_neg (by omega)]
    rfl
  rw [h1, ← pz_1074]
  have hq : (q + 1074).toNat ≤ 2045 := by omega
  rw [UInt64.toNat_ofNat']
  cases s with
  | false =>
    show ((0 * 2048 + _) * 2 ^ 52 + _) % 2 ^ 64 = 0 + _
    omega
  | true =>
    show ((1 * 2048 + _) * 2 ^ 52 + _) % 2 ^ 64 = 2 ^ 63 + _
    omega
theorem dq_z0 : FP.Core.val64 0 = .fin false 0 (-1074) := by decide +kernel
theorem dq_z1 : FP.Core.val64 9223372036854775808 = .fin true 0 (-1074) := by decide +kernel
/-- 0 less a double below 0 -/
theorem dq_0sub {x : UInt64} {c : Nat} {q : Int} (h : FP.Core.val64 x = .fin true c q) (hc : c ≠ 0) : FP.Core.val64 (FP.Core.dsub 0 x) = .fin false c q := by
  have hf := FP.Core.val64_fits x
  rw [h] at hf
  have k2 := hf.2.1
  rw [qmin64] at k2
  rw [FP.Core.val64_dsub, h, dq_z0]
  show FP.Core.round FP.Core.b64 (.fin (FP.Core.sumSign false false (FP.Core.sumUnits false 0 (-1074) false c q (min (-1074) q))) (FP.Core.sumUnits false 0 (-1074) false c q (min (-1074) q)).natAbs (min (-1074) q)) = _
  have e0 : min (-1074) q = -1074 := by omega
  have e1 : FP.Core.sumUnits false 0 (-1074) false c q (-1074) = ((c * 2 ^ (q - -1074).toNat : Nat) : Int) := by
    show ((0 * _ : Nat) : Int) + ((c * 2 ^ (q - -1074).toNat : Nat) : Int) = _
    rw [Nat.zero_mul]
    omega
  rw [e0, e1]
  have hp : 0 < c * 2 ^ (q - -1074).toNat := Nat.mul_pos (Nat.pos_of_ne_zero hc) (Nat.two_pow_pos _)
  have e2 : FP.Core.sumSign false false ((c * 2 ^ (q - -1074).toNat : Nat) : Int) = false := by
    unfold FP.Core.sumSign
    rw [if_neg (by omega), decide_eq_false (by omega)]
  rw [e2, Int.natAbs_natCast]
  refine FP.Core.roundRatio_exact FP.Core.good_b64 (by decide) hf ?_
  rw [Nat.mul_one, show ((-1074 : Int) - q).toNat = 0 by omega, Nat.pow_zero, Nat.mul_one]
theorem dq_neg {a b : UInt64} {c : Nat} {q : Int} (ha : FP.Core.val64 a = .fin false c q) (hb : FP.Core.val64 b = .fin true c q) (hc : 2 ^ 52 ≤ c) : b = a ||| 9223372036854775808 := by
  have h1 := dq_bits ha hc
  have h2 := dq_bits hb hc
  rw [if_neg (by decide)] at h1
  rw [if_pos rfl] at h2
  apply UInt64.toNat_inj.mp
  have hl : a.toNat < 2 ^ 63 := by
    have := b.toNat_lt
    omega
  rw [UInt64.toNat_or]
  show _ = a.toNat ||| 2 ^ 63
  have := Nat.two_pow_add_eq_or_of_lt (i := 63) hl 1
  rw [Nat.mul_one] at this
  rw [Nat.or_comm, ← this]
  omega
theorem dq_cmp0 {x : UInt64} {s : Bool} {c : Nat} {q : Int} (h : FP.Core.val64 x = .fin s c q) : FP.Core.dcmp x 0 = some (if c = 0 then .eq else if s then .lt else .gt) := by
  have hn : FP.Core.val64 x ≠ .nan := by rw [h]; exact fun z => by cases z
  have h0 : FP.Core.val64 0 ≠ .nan := by rw [dq_z0]; exact fun z => by cases z
  rw [FP.Core.dcmp_zval hn h0, FP.Core.zval64_zero, h]
  show some (compare (FP.Core.signed s (c * 2 ^ (q - FP.Core.b64.qmin).toNat)) 0) = _
  congr 1
  rw [FP.Core.compare_ite]
  by_cases hc : c = 0
  · subst hc
    rw [if_pos rfl, Nat.zero_mul]
    cases s <;> rfl
  · rw [if_neg hc]
    have hp : 0 < c * 2 ^ (q - FP.Core.b64.qmin).toNat := Nat.mul_pos (Nat.pos_of_ne_zero hc) (Nat.two_pow_pos _)
    cases s with
    | false =>
      show (if ((c * 2 ^ (q - FP.Core.b64.qmin).toNat : Nat) : Int) < 0 then _ else if ((c * 2 ^ (q - FP.Core.b64.qmin).toNat : Nat) : Int) = 0 then _ else _) = Ordering.gt
      rw [if_neg (by omega), if_neg (by omega)]
    | true =>
      show (if -((c * 2 ^ (q - FP.Core.b64.qmin).toNat : Nat) : Int) < 0 then _ else _) = Ordering.lt
      rw [if_pos (by omega)]
/-- whole numbers below 0 -/
theorem dq_i2d {w : Int32} (h : w.toInt < 0) {c : Nat} {q : Int} : FP.Core.val64 (FP.Core.i2d w) = .fin true c q ↔ FP.Core.round FP.Core.b64 (.fin false (-w.toInt).toNat 0) = .fin false c q := by
  have e : FP.Core.val64 (FP.Core.i2d w) = FP.Core.negate (FP.Core.round FP.Core.b64 (.fin false (-w.toInt).toNat 0)) := by
    rw [FP.Core.val64_i2d, FP.Core.negate_round]
    show FP.Core.round FP.Core.b64 (.fin (decide (w.toInt < 0)) w.toInt.natAbs 0) = FP.Core.round FP.Core.b64 (.fin true _ 0)
    rw [decide_eq_true h, show w.toInt.natAbs = (-w.toInt).toNat by omega]
  rw [e]
  constructor
  · intro g
    have := congrArg FP.Core.negate g
    rw [FP.Core.negate_negate] at this
    exact this
  · intro g
    rw [g]
    rfl
/-- a third of a whole number -/
theorem dq_w3 {w : Int32} (h : w.toInt ≠ 0) : ∃ (c : Nat) (q : Int), FP.Core.val64 (FP.Core.ddiv (FP.Core.i2d w) 4613937818241073152) = .fin (decide (w.toInt < 0)) c q ∧ 2 ^ 52 ≤ c ∧ c < 2 ^ 53 ∧ -300 ≤ q ∧ q ≤ 300 := by
  have b1 := w.toInt_lt
  have b2 := w.le_toInt
  have hb : ∀ n : Nat, 1 ≤ n → n ≤ 2 ^ 31 → 3 * 2 ^ 874 ≤ n * 2 ^ 1074 ∧ n * 2 ^ 1074 ≤ 2 ^ 1250 := by
    intro n g1 g2
    constructor
    · refine Nat.le_trans ?_ (Nat.le_mul_of_pos_left _ g1)
      refine Nat.le_trans (Nat.mul_le_mul_right _ (show 3 ≤ 2 ^ 2 by decide)) ?_
      rw [← Nat.pow_add]
      exact Nat.pow_le_pow_right (by decide) (by decide)
    · refine Nat.le_trans (Nat.mul_le_mul_right _ g2) ?_
      rw [← Nat.pow_add]
      exact Nat.pow_le_pow_right (by decide) (by decide)
  by_cases hw : w.toInt < 0
  · obtain ⟨c', q', g1, g2⟩ := pz_exact (s := false) (c := (-w.toInt).toNat) (q := 0) (by omega) (by omega) (by omega)
    have hv := (dq_i2d hw).mpr g1
    have hneg : FP.Core.val64 (FP.Core.i2d w) = FP.Core.negate (.fin false c' q') := hv
    -- a double with that datum
    have hfit : FP.Core.fits FP.Core.b64 (.fin false c' q') := by rw [← g1]; exact FP.Core.round_fits FP.Core.good_b64 _
    have hP : PZ (FP.Core.of64 (.fin false c' q')) ((-w.toInt).toNat * 2 ^ 1074) := ⟨c', q', FP.Core.val64_of64 hfit, g2⟩
    obtain ⟨m1, m2⟩ := hb (-w.toInt).toNat (by omega) (by omega)
    obtain ⟨c, q, k1, k2⟩ := dq_third hP m1 m2
    refine ⟨c, q, ?_, k2⟩
    rw [FP.Core.val64_ddiv, hneg, FP.Core.quotient_negate]
    rw [FP.Core.val64_ddiv, FP.Core.val64_of64 hfit] at k1
    rw [k1, decide_eq_true hw]
    rfl
  · rw [decide_eq_false hw]
    obtain ⟨m1, m2⟩ := hb w.toInt.toNat (by omega) (by omega)
    exact dq_third (pz_i2d (by omega)) m1 m2
theorem dq_w0 : FP.Core.ddiv (FP.Core.i2d 0) 4613937818241073152 = 0 := by decide +kernel
/-- a third of a real: its size -/
theorem dq_r3 {a : UInt32} (h : a.toNat < 2139095040) (h0 : a.toNat ≠ 0) : ∃ (c : Nat) (q : Int), FP.Core.val64 (FP.Core.ddiv (FP.Core.f2d a) 4613937818241073152) = .fin false c q ∧ 2 ^ 52 ≤ c ∧ c < 2 ^ 53 ∧ -300 ≤ q ∧ q ≤ 300 := by
  have hv := fq_fin (a := a) (by omega)
  rw [decide_eq_false (by omega : ¬ 2 ^ 31 ≤ a.toNat), show a.toNat % 2 ^ 31 = a.toNat by omega] at hv
  have hm := fq_m24 a.toNat
  have he := fq_e254 h
  have he1 := fq_e1 a.toNat
  have hm0 : 0 < fq_m a.toNat := Nat.pos_of_ne_zero (fun z => h0 (fq_m0.mp z))
  refine dq_third (pz_f2d hv) ?_ ?_
  · refine Nat.le_trans ?_ (Nat.le_mul_of_pos_left _ hm0)
    refine Nat.le_trans (Nat.mul_le_mul_right _ (show 3 ≤ 2 ^ 2 by decide)) ?_
    rw [← Nat.pow_add]
    exact Nat.pow_le_pow_right (by decide) (by omega)
  · refine Nat.le_trans (Nat.mul_le_mul_right _ (Nat.le_of_lt hm)) ?_
    rw [← Nat.pow_add]
    exact Nat.pow_le_pow_right (by decide) (by omega)
theorem dq_of64n : FP.Core.of64 .nan = 9221120237041090560 := by decide +kernel
theorem dq_r3n {a : UInt32} (h : 2139095040 < a.toNat % 2 ^ 31) : FP.Core.ddiv (FP.Core.f2d a) 4613937818241073152 = 9221120237041090560 := by
  rw [← dq_of64n]
  show FP.Core.of64 (FP.Core.quotient FP.Core.b64 (FP.Core.val64 (FP.Core.f2d a)) (FP.Core.val64 4613937818241073152)) = _
  rw [FP.Core.val64_f2d, fq_nan h]
  rfl
theorem dq_r3i {a : UInt32} (h : a.toNat % 2 ^ 31 = 2139095040) : FP.Core.ddiv (FP.Core.f2d a) 4613937818241073152 = (if 2 ^ 31 ≤ a.toNat then 9223372036854775808 else 0) ||| 9218868437227405312 := by
  show FP.Core.of64 (FP.Core.quotient FP.Core.b64 (FP.Core.val64 (FP.Core.f2d a)) (FP.Core.val64 4613937818241073152)) = _
  rw [FP.Core.val64_f2d, fq_inf h, dq_three]
  by_cases g : 2 ^ 31 ≤ a.toNat
  · rw [if_pos g, decide_eq_true g]
    decide +kernel
  · rw [if_neg g, decide_eq_false g]
    decide +kernel
theorem dq_r30 {a : UInt32} (h : a.toNat % 2 ^ 31 = 0) : FP.Core.ddiv (FP.Core.f2d a) 4613937818241073152 = (if 2 ^ 31 ≤ a.toNat then 9223372036854775808 else 0) := by
  have hlt := a.toNat_lt
  by_cases g : 2 ^ 31 ≤ a.toNat
  · rw [if_pos g]
    have : a = 2147483648 := UInt32.toNat_inj.mp (show a.toNat = 2 ^ 31 by omega)
    subst this
    decide +kernel
  · rw [if_neg g]
    have : a = 0 := UInt32.toNat_inj.mp (show a.toNat = 0 by omega)
    subst this
    decide +kernel
/-- .. with its sign -/
theorem dq_r3s {a : UInt32} (h : a.toNat % 2 ^ 31 < 2139095040) (h0 : a.toNat % 2 ^ 31 ≠ 0) : FP.Core.ddiv (FP.Core.f2d a) 4613937818241073152 = (if 2 ^ 31 ≤ a.toNat then 9223372036854775808 else 0) ||| FP.Core.ddiv (FP.Core.f2d (fq_abs a)) 4613937818241073152 := by
  obtain ⟨c, q, k1, k2, -⟩ := dq_r3 (a := fq_abs a) (by rw [fq_absn]; exact h) (by rw [fq_absn]; exact h0)
  have na := fq_absv (a := a) (by omega)
  by_cases g : 2 ^ 31 ≤ a.toNat
  · rw [if_pos g] at na ⊢
    rw [UInt64.or_comm]
    refine dq_neg k1 ?_ k2
    rw [FP.Core.val64_ddiv, FP.Core.val64_f2d, na, ← FP.Core.negate_round, FP.Core.quotient_negate]
    rw [FP.Core.val64_ddiv, FP.Core.val64_f2d] at k1
    rw [k1]
    rfl
  · rw [if_neg g]
    have : a = fq_abs a := UInt32.toNat_inj.mp (by rw [fq_absn]; have := a.toNat_lt; omega)
    rw [← this]
    simp
end FLZ
