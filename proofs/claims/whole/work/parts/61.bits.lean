/-! bits, and edges that have settled -/
theorem sl_bt_g (x : Int32) (k : Nat) (hk : k < 32) : sl_bt x k = x.toBitVec.getLsbD k := by
  have h1 : (x >>> (nI k &&& 31)).toBitVec = x.toBitVec.sshiftRight k := by
    rw [Int32.toBitVec_shiftRight]
    have : ((nI k &&& 31).toBitVec.smod 32) = BitVec.ofNat 32 k := by
      have h : ∀ k, k < 32 → ((nI k &&& 31).toBitVec.smod 32) = BitVec.ofNat 32 k := by decide +kernel
      exact h k hk
    rw [this, BitVec.sshiftRight_eq']
    congr 1
    simp
    omega
  have h2 : ((x >>> (nI k &&& 31)) &&& nI 1).toBitVec = BitVec.setWidth 32 (BitVec.ofBool (x.toBitVec.getLsbD k)) := by
    rw [Int32.toBitVec_and, h1, show (nI 1).toBitVec = 1#32 from rfl, BitVec.and_one_eq_setWidth_ofBool_getLsbD]
    congr 2
    rw [BitVec.getLsbD_sshiftRight]
    simp [hk]
  unfold sl_bt
  cases hb : x.toBitVec.getLsbD k with
  | false =>
    rw [hb] at h2
    rw [decide_eq_true (Int32.toBitVec_inj.mp h2)]
    rfl
  | true =>
    rw [hb] at h2
    rw [decide_eq_false (fun q => by rw [q] at h2; exact absurd h2 (by decide))]
    rfl
theorem sl_bt_ext {x y : Int32} (h : ∀ k, k < 32 → sl_bt x k = sl_bt y k) : x = y := by
  apply Int32.toBitVec_inj.mp
  apply BitVec.eq_of_getLsbD_eq
  intro i hi
  rw [← sl_bt_g x i hi, ← sl_bt_g y i hi]
  exact h i hi
theorem sl_bt_or (x y : Int32) (k : Nat) (hk : k < 32) : sl_bt (x ||| y) k = (sl_bt x k || sl_bt y k) := by
  rw [sl_bt_g _ k hk, sl_bt_g _ k hk, sl_bt_g _ k hk, Int32.toBitVec_or, BitVec.getLsbD_or]
theorem sl_bt_1 : ∀ m, m < 32 → ∀ k, k < 32 → sl_bt (nI 1 <<< (nI m &&& 31)) k = decide (k = m) := by decide +kernel
theorem sl_bt_0 (k : Nat) : sl_bt (nI 0) k = false := sl_bt0 k (nI 0) rfl
theorem sl_ct_mono {p p' : Nat → Bool} (n : Nat) : ∀ i, (∀ k, i ≤ k → k < i + n → p k = true → p' k = true) → sl_ct p n i ≤ sl_ct p' n i ∧ ((∃ k, i ≤ k ∧ k < i + n ∧ p k = false ∧ p' k = true) → sl_ct p n i < sl_ct p' n i) := by
  induction n with
  | zero => intro i _; exact ⟨Nat.le_refl _, fun ⟨k, h1, h2, _⟩ => by omega⟩
  | succ n ih =>
    intro i h
    obtain ⟨h1, h2⟩ := ih (i + 1) (fun k g1 g2 g3 => h k (by omega) (by omega) g3)
    have h3 := h i (Nat.le_refl i) (by omega)
    simp only [sl_ct]
    refine ⟨?_, ?_⟩
    · cases hp : p i with
      | false => cases p' i <;> simp <;> omega
      | true => rw [h3 hp]; simp; omega
    · rintro ⟨k, g1, g2, g3, g4⟩
      rcases Nat.eq_or_lt_of_le g1 with q | q
      · subst q
        rw [g3, g4]
        simp
        omega
      · have := h2 ⟨k, q, by omega, g3, g4⟩
        cases hp : p i with
        | false => cases p' i <;> simp <;> omega
        | true => rw [h3 hp]; simp; omega
theorem sl_ct_full {p : Nat → Bool} (n : Nat) : ∀ i, sl_ct p n i = n → ∀ k, i ≤ k → k < i + n → p k = true := by
  induction n with
  | zero => intro i _ k h1 h2; omega
  | succ n ih =>
    intro i h k h1 h2
    have := sl_ct_le p n (i + 1)
    simp only [sl_ct] at h
    cases hp : p i with
    | false => rw [hp] at h; simp at h; omega
    | true =>
      rw [hp] at h
      rcases Nat.eq_or_lt_of_le h1 with q | q
      · subst q; exact hp
      · exact ih (i + 1) (by simp at h; omega) k q (by omega)
/-- n times -/
def sl_it {α : Type} (F : α → α) : Nat → α → α
  | 0, x => x
  | n + 1, x => sl_it F n (F x)
theorem sl_it_s {α : Type} (F : α → α) (n : Nat) : ∀ x, sl_it F (n + 1) x = F (sl_it F n x) := by
  induction n with
  | zero => intro x; rfl
  | succ n ih => intro x; exact ih (F x)
theorem sl_it_fix {α : Type} {F : α → α} {x : α} (h : F x = x) (n : Nat) : sl_it F n x = x := by
  induction n with
  | zero => rfl
  | succ n ih => rw [sl_it_s, ih, h]
theorem sl_it_add {α : Type} (F : α → α) (m : Nat) : ∀ (n : Nat) (x : α), sl_it F (n + m) x = sl_it F m (sl_it F n x) := by
  intro n
  induction n with
  | zero => intro x; rw [Nat.zero_add]; rfl
  | succ n ih => intro x; rw [show n + 1 + m = (n + m) + 1 by omega]; exact ih (F x)
theorem sl_fo_it {α : Type} (F : α → α) (n : Nat) : ∀ i x, sl_fo (fun _ x => F x) n i x = sl_it F n x := by
  induction n with
  | zero => intro i x; rfl
  | succ n ih => intro i x; exact ih (i + 1) (F x)
/-- flags that only come, at places below N: settled after N rounds -/
theorem sl_set {F : (Nat → Bool) → (Nat → Bool)} {N : Nat} (hF : ∀ S n, S n = true → F S n = true) (hN : ∀ S n, N ≤ n → F S n = S n) (S : Nat → Bool) : F (sl_it F N S) = sl_it F N S := by
  have hx : ∀ T, F T = T ∨ sl_ct T N 0 < sl_ct (F T) N 0 := by
    intro T
    by_cases h : ∃ k, 0 ≤ k ∧ k < 0 + N ∧ T k = false ∧ F T k = true
    · exact Or.inr ((sl_ct_mono N 0 (fun k _ _ g => hF T k g)).2 h)
    · left
      funext n
      rcases Nat.lt_or_ge n N with q | q
      · cases hT : T n with
        | true => exact hF T n hT
        | false =>
          cases hF' : F T n with
          | false => rfl
          | true => exact absurd ⟨n, Nat.zero_le n, by omega, hT, hF'⟩ h
      · exact hN T n q
  have hk : ∀ j, F (sl_it F j S) = sl_it F j S ∨ j ≤ sl_ct (sl_it F j S) N 0 := by
    intro j
    induction j with
    | zero => exact Or.inr (Nat.zero_le _)
    | succ j ih =>
      rw [sl_it_s]
      rcases ih with ih | ih
      · left; rw [ih, ih]
      · rcases hx (sl_it F j S) with q | q
        · left; rw [q, q]
        · right; omega
  rcases hk N with h | h
  · exact h
  · funext n
    rcases Nat.lt_or_ge n N with q | q
    · have h2 := sl_ct_le (sl_it F N S) N 0
      have h3 := sl_ct_full (p := sl_it F N S) N 0 (by omega) n (Nat.zero_le n) (by omega)
      rw [h3, hF _ n h3]
    · exact hN _ n q
