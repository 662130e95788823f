/-! numbers and the store, for the walks -/
theorem sl_up_eq {M : sl_M} {a : Nat} {x : sl_E} : sl_up M a x a = x := by simp [sl_up]
theorem sl_up_ne {M : sl_M} {a k : Nat} {x y : sl_E} (h : k ≠ a) (g : M k = y) : sl_up M a x k = y := by simp [sl_up, h, g]
theorem nI_mul (a b : Nat) : nI a * nI b = nI (a * b) := by simp [nI, Int32.ofNat_mul]
theorem nI_add' (a b : Nat) : nI a + nI b = nI (a + b) := by simp [nI, Int32.ofNat_add]
theorem nI_lit (n : Nat) : (OfNat.ofNat n : Int32) = nI n := rfl
theorem nI_inc (i : Nat) : nI i + Int32.ofInt 1 = nI (i + 1) := by rw [← nI_add']; rfl
theorem nI_sub {a b : Nat} (h : b ≤ a) : nI a - nI b = nI (a - b) := by
  have e : nI a = nI (a - b) + nI b := by rw [nI_add']; congr 1; omega
  rw [e]; exact Int32.add_sub_cancel _ _
theorem nI_inj {a b : Nat} (ha : a < 2 ^ 31) (hb : b < 2 ^ 31) : nI a = nI b ↔ a = b := by
  constructor
  · intro h
    have := congrArg Int32.toNatClampNeg h
    rwa [nI_clamp ha, nI_clamp hb] at this
  · intro h; rw [h]
theorem nI_lt_iff {a b : Nat} (ha : a < 2 ^ 31) (hb : b < 2 ^ 31) : nI a < nI b ↔ a < b := by
  constructor
  · intro h
    rcases Nat.lt_or_ge a b with g | g
    · exact g
    · exact absurd h (nI_nlt g ha)
  · intro h; exact nI_lt h hb
theorem nI_le_iff {a b : Nat} (ha : a < 2 ^ 31) (hb : b < 2 ^ 31) : nI a ≤ nI b ↔ a ≤ b := by
  constructor
  · intro h
    rcases Nat.lt_or_ge b a with g | g
    · exact absurd h (nI_ge g ha)
    · exact g
  · intro h; exact nI_le h hb
theorem nI_neg1 {a : Nat} (ha : a < 2 ^ 31) : nI a ≠ -1 := by
  intro h
  have h2 := congrArg Int32.toInt h
  rw [nI_toInt ha] at h2
  have h3 : Int32.toInt (-1) = -1 := by decide
  rw [h3] at h2
  omega
/-- the first place from i on, n to look at, where p holds; -1 -/
def sl_ff (p : Nat → Bool) : Nat → Nat → Int32
  | 0, _ => -1
  | n + 1, i => cond (p i) (nI i) (sl_ff p n (i + 1))
/-- n steps from i on -/
def sl_fo {α : Type} (f : Nat → α → α) : Nat → Nat → α → α
  | 0, _, a => a
  | n + 1, i, a => sl_fo f n (i + 1) (f i a)
/-- at how many of n places from i on p holds -/
def sl_ct (p : Nat → Bool) : Nat → Nat → Nat
  | 0, _ => 0
  | n + 1, i => (cond (p i) 1 0) + sl_ct p n (i + 1)
/-- whether p holds at one of n places from i on -/
def sl_ex (p : Nat → Bool) : Nat → Nat → Bool
  | 0, _ => false
  | n + 1, i => p i || sl_ex p n (i + 1)
def sl_bi (b : Bool) : Int32 := cond b 1 0
theorem sl_ff_ex (p : Nat → Bool) (n : Nat) : ∀ i, i + n < 2 ^ 31 → (sl_ex p n i = false → sl_ff p n i = -1) ∧ (sl_ex p n i = true → ∃ j, i ≤ j ∧ j < i + n ∧ p j = true ∧ (∀ k, i ≤ k → k < j → p k = false) ∧ sl_ff p n i = nI j) := by
  induction n with
  | zero => intro i _; exact ⟨fun _ => rfl, fun h => by cases h⟩
  | succ n ih =>
    intro i hi
    cases hp : p i with
    | true =>
      refine ⟨fun h => by simp [sl_ex, hp] at h, fun _ => ⟨i, Nat.le_refl i, by omega, hp, fun k h1 h2 => by omega, by simp [sl_ff, hp]⟩⟩
    | false =>
      obtain ⟨h1, h2⟩ := ih (i + 1) (by omega)
      refine ⟨fun h => ?_, fun h => ?_⟩
      · simp only [sl_ff, hp, cond_false]; exact h1 (by simpa [sl_ex, hp] using h)
      · obtain ⟨j, a1, a2, a3, a4, a5⟩ := h2 (by simpa [sl_ex, hp] using h)
        refine ⟨j, by omega, by omega, a3, fun k g1 g2 => ?_, by simp only [sl_ff, hp, cond_false]; exact a5⟩
        rcases Nat.lt_or_ge k (i + 1) with g | g
        · have e : k = i := by omega
          rw [e]; exact hp
        · exact a4 k g g2
theorem sl_ff_congr {p p' : Nat → Bool} (n : Nat) : ∀ i, (∀ k, i ≤ k → k < i + n → p k = p' k) → sl_ff p n i = sl_ff p' n i := by
  induction n with
  | zero => intro i _; rfl
  | succ n ih =>
    intro i h
    simp only [sl_ff]
    rw [h i (Nat.le_refl i) (by omega), ih (i + 1) (fun k h1 h2 => h k (by omega) (by omega))]
theorem sl_ct_le (p : Nat → Bool) (n : Nat) : ∀ i, sl_ct p n i ≤ n := by
  induction n with
  | zero => intro i; exact Nat.le_refl 0
  | succ n ih =>
    intro i
    have := ih (i + 1)
    simp only [sl_ct]
    cases p i <;> simp <;> omega
theorem sl_ct_congr {p p' : Nat → Bool} (n : Nat) : ∀ i, (∀ k, i ≤ k → k < i + n → p k = p' k) → sl_ct p n i = sl_ct p' n i := by
  induction n with
  | zero => intro i _; rfl
  | succ n ih =>
    intro i h
    simp only [sl_ct]
    rw [h i (Nat.le_refl i) (by omega), ih (i + 1) (fun k h1 h2 => h k (by omega) (by omega))]
theorem sl_ex_congr {p p' : Nat → Bool} (n : Nat) : ∀ i, (∀ k, i ≤ k → k < i + n → p k = p' k) → sl_ex p n i = sl_ex p' n i := by
  induction n with
  | zero => intro i _; rfl
  | succ n ih =>
    intro i h
    simp only [sl_ex]
    rw [h i (Nat.le_refl i) (by omega), ih (i + 1) (fun k h1 h2 => h k (by omega) (by omega))]
/-! the grammar: its rules as told -/
abbrev sg_T : Type := Nat × Nat × Nat × Nat × (Nat → Int32) × (Nat → Nat) × (Nat → Nat) × (Nat → Nat) × (Nat → Nat) × (Nat → Nat) × (Nat → Bool)
abbrev sg_kind (g : sg_T) : Nat := g.1
abbrev sg_rules (g : sg_T) : Nat := g.2.1
abbrev sg_names (g : sg_T) : Nat := g.2.2.1
abbrev sg_terms (g : sg_T) : Nat := g.2.2.2.1
abbrev sg_words (g : sg_T) : Nat → Int32 := g.2.2.2.2.1
abbrev sg_signs (g : sg_T) : Nat → Nat := g.2.2.2.2.2.1
abbrev sg_heads (g : sg_T) : Nat → Nat := g.2.2.2.2.2.2.1
abbrev sg_deeds (g : sg_T) : Nat → Nat := g.2.2.2.2.2.2.2.1
abbrev sg_lens (g : sg_T) : Nat → Nat := g.2.2.2.2.2.2.2.2.1
abbrev sg_items (g : sg_T) : Nat → Nat := g.2.2.2.2.2.2.2.2.2.1
abbrev sg_put (g : sg_T) : Nat → Bool := g.2.2.2.2.2.2.2.2.2.2
def sl_ai (n : Nat) (f : Nat → Nat) : sl_E := .inl (.int, n, .inl fun i => nI (f i))
def sl_az (n : Nat) (f : Nat → Bool) : sl_E := .inl (.boolean, n, .inl fun i => sl_bi (f i))
/-- a Grammar lies at b -/
def sg_at (b : Nat) (g : sg_T) (M : sl_M) : Prop :=
  M b = .inr (2, [.int (nI (sg_kind g)), .int (nI (sg_rules g)), .int (nI (sg_names g)), .int (nI (sg_terms g)), .ref (b + 1), .ref (b + 2), .ref (b + 3), .ref (b + 4), .ref (b + 5), .ref (b + 6), .ref (b + 7)]) ∧
  M (b + 1) = .inl (.int, 6, .inl (sg_words g)) ∧ M (b + 2) = .inl (.int, 11, .inl fun i => nI (sg_signs g i)) ∧ M (b + 3) = .inl (.int, 12, .inl fun i => nI (sg_heads g i)) ∧ M (b + 4) = .inl (.int, 12, .inl fun i => nI (sg_deeds g i)) ∧
  M (b + 5) = .inl (.int, 12, .inl fun i => nI (sg_lens g i)) ∧ M (b + 6) = .inl (.int, 60, .inl fun i => nI (sg_items g i)) ∧ M (b + 7) = .inl (.boolean, 12, .inl fun i => sl_bi (sg_put g i))
/-- numbers as they must be -/
def sg_ok (g : sg_T) : Prop := sg_kind g ≤ 2 ∧ sg_rules g ≤ 12 ∧ sg_names g ≤ 6 ∧ sg_terms g ≤ 11 ∧ (∀ i, i < 11 → sg_signs g i < 256) ∧ (∀ r, r < 12 → sg_heads g r < 6 ∧ sg_deeds g r < 9 ∧ sg_lens g r ≤ 5) ∧ (∀ j, j < 60 → sg_items g j < 106) ∧ ∀ r, r < sg_rules g → 1 ≤ sg_lens g r
theorem sl_bi_t : sl_bi true = 1 := rfl
theorem sl_bi_f : sl_bi false = 0 := rfl
theorem sl_bi_eq0 (b : Bool) : sl_bi b = 0 ↔ b = false := by cases b <;> decide
theorem sl_bi_ne0 (b : Bool) : ¬ sl_bi b = 0 ↔ b = true := by cases b <;> decide
theorem sl_bi_nar (b : Bool) : narrow .boolean (.int (sl_bi b)) = .int (sl_bi b) := by cases b <;> rfl
theorem sl_bi_fit (b : Bool) : fits .boolean (.int (sl_bi b)) = true := by cases b <;> rfl
