/-! graphs of 28 points as rows of bits: reaching, ways back, longest ways -/
theorem sl_ex_iff {p : Nat → Bool} (n : Nat) : ∀ i, sl_ex p n i = true ↔ ∃ k, i ≤ k ∧ k < i + n ∧ p k = true := by
  induction n with
  | zero => intro i; exact ⟨fun h => (by cases h), fun ⟨k, h1, h2, _⟩ => by omega⟩
  | succ n ih =>
    intro i
    simp only [sl_ex, Bool.or_eq_true, ih (i + 1)]
    constructor
    · rintro (h | ⟨k, h1, h2, h3⟩)
      · exact ⟨i, Nat.le_refl i, by omega, h⟩
      · exact ⟨k, by omega, by omega, h3⟩
    · rintro ⟨k, h1, h2, h3⟩
      rcases Nat.eq_or_lt_of_le h1 with q | q
      · subst q; exact Or.inl h3
      · exact Or.inr ⟨k, q, by omega, h3⟩
theorem sl_fo_app {α : Type} (f : Nat → α → α) (n m : Nat) : ∀ i x, sl_fo f (n + m) i x = sl_fo f m (i + n) (sl_fo f n i x) := by
  induction n with
  | zero => intro i x; rw [Nat.zero_add]; rfl
  | succ n ih =>
    intro i x
    rw [show n + 1 + m = (n + m) + 1 by omega]
    show sl_fo f (n + m) (i + 1) (f i x) = _
    rw [ih, show i + 1 + n = i + (n + 1) by omega]
    rfl
theorem sl_fo_id {α : Type} {f : Nat → α → α} {x : α} (n : Nat) : ∀ i, (∀ k, i ≤ k → k < i + n → f k x = x) → sl_fo f n i x = x := by
  induction n with
  | zero => intro i _; rfl
  | succ n ih =>
    intro i h
    show sl_fo f n (i + 1) (f i x) = x
    rw [h i (Nat.le_refl i) (by omega)]
    exact ih (i + 1) (fun k h1 h2 => h k (by omega) (by omega))
/-- rows of 28 points -/
def gz (r : Nat → Int32) : Prop := (∀ p, 28 ≤ p → r p = nI 0) ∧ ∀ p q, 28 ≤ q → q < 32 → sl_bt (r p) q = false
theorem lk_w1_at {r : Nat → Int32} {by_ : Nat} (n : Nat) : ∀ (i : Nat) (r' : Nat → Int32), (∀ p, i ≤ p → r' p = r p) → r' by_ = r by_ → lk_w1 by_ n i r' = fun p => if i ≤ p ∧ p < i + n then cond (sl_bt (r p) by_) (r p ||| r by_) (r p) else r' p := by
  induction n with
  | zero =>
    intro i r' h hb
    funext p
    rw [if_neg (by omega)]
    rfl
  | succ n ih =>
    intro i r' h hb
    show lk_w1 by_ n (i + 1) (cond (sl_bt (r' i) by_) (sl_u r' i (r' i ||| r' by_)) r') = _
    have hi := h i (Nat.le_refl i)
    rw [ih (i + 1)]
    · funext p
      by_cases h1 : p = i
      · subst h1
        rw [if_neg (by omega), if_pos (by omega), hi, hb]
        cases sl_bt (r p) by_ with
        | false => exact hi
        | true => exact sl_u_eq
      · by_cases h2 : i + 1 ≤ p ∧ p < i + 1 + n
        · rw [if_pos h2, if_pos (by omega)]
        · rw [if_neg h2, if_neg (by omega)]
          cases sl_bt (r' i) by_ with
          | false => rfl
          | true => exact sl_u_ne h1
    · intro p hp
      cases sl_bt (r' i) by_ with
      | false => exact h p (by omega)
      | true => exact (sl_u_ne (by omega)).trans (h p (by omega))
    · cases sl_bt (r' i) by_ with
      | false => exact hb
      | true =>
        by_cases h1 : by_ = i
        · subst h1
          rw [cond_true, sl_u_eq, hi, Int32.or_self]
        · exact (sl_u_ne h1).trans hb
theorem lk_w1_eq (r : Nat → Int32) (by_ n : Nat) : lk_w1 by_ n 0 r = fun p => if p < n then cond (sl_bt (r p) by_) (r p ||| r by_) (r p) else r p := by
  rw [lk_w1_at n 0 r (fun _ _ => rfl) rfl]
  funext p
  by_cases h : p < n
  · rw [if_pos (by omega), if_pos h]
  · rw [if_neg (by omega), if_neg h]
theorem lk_w1_gz {r : Nat → Int32} (h : gz r) {by_ : Nat} : gz (lk_w1 by_ 28 0 r) := by
  rw [lk_w1_eq]
  refine ⟨fun p hp => ?_, fun p q h1 h2 => ?_⟩
  · show (if p < 28 then _ else r p) = nI 0
    rw [if_neg (by omega)]
    exact h.1 p hp
  · show sl_bt (if p < 28 then _ else r p) q = false
    by_cases hp : p < 28
    · rw [if_pos hp]
      cases sl_bt (r p) by_ with
      | false => exact h.2 p q h1 h2
      | true =>
        rw [cond_true, sl_bt_or _ _ q (by omega), h.2 p q h1 h2, h.2 by_ q h1 h2]
        rfl
    · rw [if_neg hp]
      exact h.2 p q h1 h2
theorem lk_w1_32 {r : Nat → Int32} (h : gz r) {by_ : Nat} : lk_w1 by_ 32 0 r = lk_w1 by_ 28 0 r := by
  rw [lk_w1_eq, lk_w1_eq]
  funext p
  by_cases h1 : p < 28
  · rw [if_pos h1, if_pos (by omega)]
  · rw [if_neg h1]
    by_cases h2 : p < 32
    · rw [if_pos h2, h.1 p (by omega), sl_bt_0]
      rfl
    · rw [if_neg h2]
theorem lk_w1_hi {r : Nat → Int32} (h : gz r) {by_ : Nat} (h1 : 28 ≤ by_) (h2 : by_ < 32) : lk_w1 by_ 32 0 r = r := by
  rw [lk_w1_eq]
  funext p
  by_cases hp : p < 32
  · rw [if_pos hp, h.2 p by_ h1 h2]
    rfl
  · rw [if_neg hp]
/-- as the reference does it, over 32 points -/
def rf_wa (n i : Nat) (r : Nat → Int32) : Nat → Int32 := sl_fo (fun m r => lk_w1 m 32 0 r) n i r
theorem rf_wa_go {n : Nat} : ∀ {i : Nat} {r : Nat → Int32}, gz r → i + n ≤ 28 → rf_wa n i r = lk_wa n i r ∧ gz (lk_wa n i r) := by
  induction n with
  | zero => intro i r h _; exact ⟨rfl, h⟩
  | succ n ih =>
    intro i r h hi
    obtain ⟨h1, h2⟩ := ih (i := i + 1) (lk_w1_gz h (by_ := i)) (by omega)
    refine ⟨?_, h2⟩
    show rf_wa n (i + 1) (lk_w1 i 32 0 r) = lk_wa n (i + 1) (lk_w1 i 28 0 r)
    rw [lk_w1_32 h]
    exact h1
theorem rf_wa_eq {r : Nat → Int32} (h : gz r) : rf_wa 32 0 r = lk_wa 28 0 r ∧ gz (lk_wa 28 0 r) := by
  obtain ⟨h1, h2⟩ := rf_wa_go (n := 28) (i := 0) h (by omega)
  refine ⟨?_, h2⟩
  show sl_fo (fun m r => lk_w1 m 32 0 r) (28 + 4) 0 r = _
  rw [sl_fo_app, show sl_fo (fun m r => lk_w1 m 32 0 r) 28 0 r = lk_wa 28 0 r from h1]
  exact sl_fo_id 4 _ (fun k g1 g2 => lk_w1_hi h2 (by omega) (by omega))
/-- what a step of reaching says, bit by bit -/
theorem lk_w1_b (r : Nat → Int32) (by_ : Nat) {p q : Nat} (hp : p < 28) (hq : q < 32) : sl_bt (lk_w1 by_ 28 0 r p) q = (sl_bt (r p) q || (sl_bt (r p) by_ && sl_bt (r by_) q)) := by
  rw [lk_w1_eq]
  simp only [if_pos hp]
  cases sl_bt (r p) by_ with
  | false => simp
  | true => rw [cond_true, sl_bt_or _ _ q hq]; simp
theorem lk_wa_s (n : Nat) : ∀ (i : Nat) (r : Nat → Int32), lk_wa (n + 1) i r = lk_w1 (i + n) 28 0 (lk_wa n i r) := by
  induction n with
  | zero => intro i r; rfl
  | succ n ih =>
    intro i r
    show lk_wa (n + 1) (i + 1) (lk_w1 i 28 0 r) = _
    rw [ih (i + 1), show i + 1 + n = i + (n + 1) by omega]
    rfl
theorem lk_wa_up (r : Nat → Int32) (n : Nat) (hn : n ≤ 28) : ∀ p q, p < 28 → q < 28 → sl_bt (r p) q = true → sl_bt (lk_wa n 0 r p) q = true := by
  induction n with
  | zero => intro p q _ _ h; exact h
  | succ n ih =>
    intro p q hp hq h
    rw [lk_wa_s, lk_w1_b _ _ hp (by omega), ih (by omega) p q hp hq h]
    rfl
theorem lk_wa_tr (r : Nat → Int32) (n : Nat) (hn : n ≤ 28) : ∀ p m q, p < 28 → m < n → q < 28 → sl_bt (lk_wa n 0 r p) m = true → sl_bt (lk_wa n 0 r m) q = true → sl_bt (lk_wa n 0 r p) q = true := by
  induction n with
  | zero => intro p m q _ h; omega
  | succ n ih =>
    intro p m q hp hm hq h1 h2
    have ih := ih (by omega)
    rw [lk_wa_s, Nat.zero_add] at h1 h2 ⊢
    rw [lk_w1_b _ _ hp (by omega)] at h1 ⊢
    rw [lk_w1_b _ _ (show m < 28 by omega) (by omega)] at h2
    simp only [Bool.or_eq_true, Bool.and_eq_true] at h1 h2 ⊢
    rcases Nat.lt_or_ge m n with g | g
    · rcases h1 with h1 | ⟨h1, h3⟩ <;> rcases h2 with h2 | ⟨h2, h4⟩
      · exact Or.inl (ih p m q hp g hq h1 h2)
      · exact Or.inr ⟨ih p m n hp g (by omega) h1 h2, h4⟩
      · exact Or.inr ⟨h1, ih n m q (by omega) g hq h3 h2⟩
      · exact Or.inr ⟨h1, h4⟩
    · have e : m = n := by omega
      subst e
      have g1 : sl_bt (lk_wa m 0 r p) m = true := h1.elim id (fun q => q.1)
      have g2 : sl_bt (lk_wa m 0 r m) q = true := h2.elim id (fun q => q.2)
      exact Or.inr ⟨g1, g2⟩
/-- what may be reached from what has a property has it, if arcs hand it back -/
theorem lk_wa_so (r : Nat → Int32) {P : Nat → Prop} (hP : ∀ p q, p < 28 → q < 28 → sl_bt (r p) q = true → P q → P p) (n : Nat) (hn : n ≤ 28) : ∀ p q, p < 28 → q < 28 → sl_bt (lk_wa n 0 r p) q = true → P q → P p ∧ ∃ m, m < 28 ∧ sl_bt (r p) m = true ∧ P m := by
  induction n with
  | zero => intro p q hp hq h h2; exact ⟨hP p q hp hq h h2, q, hq, h, h2⟩
  | succ n ih =>
    intro p q hp hq h h2
    have ih := ih (by omega)
    rw [lk_wa_s, Nat.zero_add, lk_w1_b _ _ hp (by omega)] at h
    simp only [Bool.or_eq_true, Bool.and_eq_true] at h
    rcases h with h | ⟨h, h3⟩
    · exact ih p q hp hq h h2
    · exact ih p n hp (by omega) h (ih n q (by omega) hq h3 h2).1
/-! longest ways -/
theorem lk_lf_iff {ar : Nat → Int32} {nu : Nat → Nat} {k : Nat} (n : Nat) : ∀ i m c, lk_lf ar nu k n i m ≤ c ↔ m ≤ c ∧ ∀ p, i ≤ p → p < i + n → sl_bt (ar k) p = true → nu p + 1 ≤ c := by
  induction n with
  | zero => intro i m c; exact ⟨fun h => ⟨h, fun p h1 h2 => by omega⟩, fun h => h.1⟩
  | succ n ih =>
    intro i m c
    show lk_lf ar nu k n (i + 1) (cond (sl_bt (ar k) i) (max m (nu i + 1)) m) ≤ c ↔ _
    rw [ih (i + 1)]
    cases hb : sl_bt (ar k) i with
    | true =>
      rw [cond_true, Nat.max_le]
      constructor
      · rintro ⟨⟨h1, h2⟩, h3⟩
        refine ⟨h1, fun p g1 g2 g3 => ?_⟩
        rcases Nat.eq_or_lt_of_le g1 with q | q
        · subst q; exact h2
        · exact h3 p q (by omega) g3
      · rintro ⟨h1, h2⟩
        exact ⟨⟨h1, h2 i (Nat.le_refl i) (by omega) hb⟩, fun p g1 g2 g3 => h2 p (by omega) (by omega) g3⟩
    | false =>
      rw [cond_false]
      constructor
      · rintro ⟨h1, h2⟩
        refine ⟨h1, fun p g1 g2 g3 => ?_⟩
        rcases Nat.eq_or_lt_of_le g1 with q | q
        · subst q; rw [hb] at g3; cases g3
        · exact h2 p q (by omega) g3
      · rintro ⟨h1, h2⟩
        exact ⟨h1, fun p g1 g2 g3 => h2 p (by omega) (by omega) g3⟩
def lf (ar : Nat → Int32) (nu : Nat → Nat) (k : Nat) : Nat := lk_lf ar nu k 28 0 0
theorem lf_le {ar : Nat → Int32} {nu : Nat → Nat} {k c : Nat} : lf ar nu k ≤ c ↔ ∀ p, p < 28 → sl_bt (ar k) p = true → nu p + 1 ≤ c := by
  rw [lf, lk_lf_iff]
  exact ⟨fun h p hp => h.2 p (Nat.zero_le p) (by omega), fun h => ⟨Nat.zero_le c, fun p _ hp => h p (by omega)⟩⟩
theorem lf_mono {ar : Nat → Int32} {nu nu' : Nat → Nat} {k : Nat} (h : ∀ p, p < 28 → nu p ≤ nu' p) : lf ar nu k ≤ lf ar nu' k := by
  rw [lf_le]
  intro p hp hb
  have h1 := lf_le.mp (Nat.le_refl (lf ar nu' k)) p hp hb
  have h2 := h p hp
  omega
/-- the longest way of at most n arcs -/
def lw (ar : Nat → Int32) : Nat → Nat → Nat
  | 0, _ => 0
  | n + 1, p => lf ar (lw ar n) p
theorem lw_s (ar : Nat → Int32) (n p : Nat) : lw ar (n + 1) p = lf ar (lw ar n) p := rfl
/-- how many points may be reached -/
def rkc (re : Nat → Int32) (p : Nat) : Nat := sl_ct (fun q => sl_bt (re p) q) 28 0
theorem rkc_lt {ar : Nat → Int32} (hc : ∀ p, p < 28 → sl_bt (lk_wa 28 0 ar p) p = false) {p q : Nat} (hp : p < 28) (hq : q < 28) (h : sl_bt (ar p) q = true) : rkc (lk_wa 28 0 ar) q < rkc (lk_wa 28 0 ar) p := by
  have hpq := lk_wa_up ar 28 (Nat.le_refl 28) p q hp hq h
  refine (sl_ct_mono 28 0 (fun k _ hk g => ?_)).2 ⟨q, Nat.zero_le q, by omega, hc q hq, hpq⟩
  exact lk_wa_tr ar 28 (Nat.le_refl 28) p q k hp hq (by omega) hpq g
theorem lw_st {ar : Nat → Int32} (hc : ∀ p, p < 28 → sl_bt (lk_wa 28 0 ar p) p = false) : ∀ n p, p < 28 → rkc (lk_wa 28 0 ar) p ≤ n → lw ar (n + 1) p = lw ar n p := by
  intro n
  induction n with
  | zero =>
    intro p hp h
    rw [lw_s]
    apply Nat.le_antisymm _ (Nat.zero_le _)
    rw [lf_le]
    intro q hq hb
    have := rkc_lt hc hp hq hb
    omega
  | succ n ih =>
    intro p hp h
    rw [lw_s ar (n + 1), lw_s ar n]
    apply Nat.le_antisymm <;> rw [lf_le] <;> intro q hq hb
    · rw [ih q hq (by have := rkc_lt hc hp hq hb; omega)]
      exact lf_le.mp (Nat.le_refl (lf ar (lw ar n) p)) q hq hb
    · rw [← ih q hq (by have := rkc_lt hc hp hq hb; omega)]
      exact lf_le.mp (Nat.le_refl (lf ar (lw ar (n + 1)) p)) q hq hb
theorem rkc_27 {ar : Nat → Int32} (hc : ∀ p, p < 28 → sl_bt (lk_wa 28 0 ar p) p = false) {p : Nat} (hp : p < 28) : rkc (lk_wa 28 0 ar) p ≤ 27 := by
  have h1 := sl_ct_le (fun q => sl_bt (lk_wa 28 0 ar p) q) 28 0
  rcases Nat.lt_or_ge (rkc (lk_wa 28 0 ar) p) 28 with g | g
  · omega
  · have := sl_ct_full (p := fun q => sl_bt (lk_wa 28 0 ar p) q) 28 0 (by unfold rkc at g; omega) p (Nat.zero_le p) (by omega)
    exact absurd (this.symm.trans (hc p hp)) (by decide)
theorem lw_fix {ar : Nat → Int32} (hc : ∀ p, p < 28 → sl_bt (lk_wa 28 0 ar p) p = false) {p : Nat} (hp : p < 28) : lf ar (lw ar 27) p = lw ar 27 p := (lw_s ar 27 p).symm.trans (lw_st hc 27 p hp (rkc_27 hc hp))
theorem lw_le {ar : Nat → Int32} (n : Nat) : ∀ p, lw ar n p ≤ lw ar (n + 1) p := by
  induction n with
  | zero => intro p; exact Nat.zero_le _
  | succ n ih => intro p; rw [lw_s ar n, lw_s ar (n + 1)]; exact lf_mono (fun q _ => ih q)
/-- the class's measuring -/
theorem lk_m1_ge {ar : Nat → Int32} {k : Nat} (n : Nat) : ∀ (i : Nat) (nu : Nat → Nat) (gr : Bool), i + n = 28 → (∀ p, p < i → lw ar (k + 1) p ≤ nu p) → (∀ p, p < 28 → lw ar k p ≤ nu p) → ∀ p, p < 28 → lw ar (k + 1) p ≤ (lk_m1 ar n i nu gr).1 p := by
  induction n with
  | zero => intro i nu gr hi h1 _ p hp; exact h1 p (by omega)
  | succ n ih =>
    intro i nu gr hi h1 h2
    refine ih (i + 1) _ _ (by omega) (fun p hp => ?_) (fun p hp => ?_)
    · by_cases e : p = i
      · subst e
        rw [sl_u_eq, lw_s]
        exact lf_mono h2
      · rw [sl_u_ne e]
        exact h1 p (by omega)
    · by_cases e : p = i
      · subst e
        rw [sl_u_eq]
        refine Nat.le_trans (lw_le k p) ?_
        rw [lw_s]
        exact lf_mono h2
      · rw [sl_u_ne e]
        exact h2 p hp
theorem lk_m1_lt {ar : Nat → Int32} {L : Nat → Nat} (hL : ∀ p, p < 28 → lf ar L p = L p) (n : Nat) : ∀ (i : Nat) (nu : Nat → Nat) (gr : Bool), i + n ≤ 28 → (∀ p, p < 28 → nu p ≤ L p) → ∀ p, p < 28 → (lk_m1 ar n i nu gr).1 p ≤ L p := by
  induction n with
  | zero => intro i nu gr _ h; exact h
  | succ n ih =>
    intro i nu gr hi h
    refine ih (i + 1) _ _ (by omega) (fun p hp => ?_)
    by_cases e : p = i
    · subst e
      rw [sl_u_eq, ← hL p hp]
      exact lf_mono h
    · rw [sl_u_ne e]
      exact h p hp
/-- nothing grew: a round that left all as it was -/
theorem lk_m1_no {ar : Nat → Int32} (n : Nat) : ∀ (i : Nat) (nu : Nat → Nat) (gr : Bool), (∀ p, p < 28 → nu p ≤ lf ar nu p) → i + n = 28 → (lk_m1 ar n i nu gr).2 = false → gr = false ∧ (lk_m1 ar n i nu gr).1 = nu ∧ ∀ p, i ≤ p → p < 28 → lf ar nu p = nu p := by
  induction n with
  | zero => intro i nu gr _ hi h; exact ⟨h, rfl, fun p h1 h2 => by omega⟩
  | succ n ih =>
    intro i nu gr hm hi h
    have hgr : ∀ (m j : Nat) (nu : Nat → Nat), (lk_m1 ar m j nu true).2 = true := by
      intro m
      induction m with
      | zero => intro j nu; rfl
      | succ m ihm => intro j nu; exact ihm (j + 1) _
    have hg : (gr || decide (nu i < lk_lf ar nu i 28 0 0)) = false := by
      cases hx : (gr || decide (nu i < lk_lf ar nu i 28 0 0)) with
      | false => rfl
      | true =>
        have h' : (lk_m1 ar n (i + 1) (sl_u nu i (lk_lf ar nu i 28 0 0)) (gr || decide (nu i < lk_lf ar nu i 28 0 0))).2 = false := h
        rw [hx, hgr] at h'
        cases h'
    have e1 : lf ar nu i = nu i := by
      have := hm i (by omega)
      have h2 : decide (nu i < lk_lf ar nu i 28 0 0) = false := by
        cases gr <;> simpa using hg
      have := of_decide_eq_false h2
      show lk_lf ar nu i 28 0 0 = nu i
      have h3 : nu i ≤ lk_lf ar nu i 28 0 0 := hm i (by omega)
      omega
    have e2 : sl_u nu i (lk_lf ar nu i 28 0 0) = nu := by
      rw [show lk_lf ar nu i 28 0 0 = nu i from e1, sl_u_self]
    have h' : (lk_m1 ar n (i + 1) (sl_u nu i (lk_lf ar nu i 28 0 0)) (gr || decide (nu i < lk_lf ar nu i 28 0 0))).2 = false := h
    rw [e2] at h'
    obtain ⟨a1, a2, a3⟩ := ih (i + 1) nu _ hm (by omega) h'
    refine ⟨by cases gr; rfl; simp at a1, ?_, fun p h1 h2 => ?_⟩
    · show (lk_m1 ar n (i + 1) (sl_u nu i (lk_lf ar nu i 28 0 0)) _).1 = nu
      rw [e2]; exact a2
    · rcases Nat.eq_or_lt_of_le h1 with q | q
      · subst q; exact e1
      · exact a3 p q h2
theorem lk_m1_mo {ar : Nat → Int32} (n : Nat) : ∀ (i : Nat) (nu : Nat → Nat) (gr : Bool), i + n ≤ 28 → (∀ p, p < 28 → nu p ≤ lf ar nu p) → ∀ p, p < 28 → (lk_m1 ar n i nu gr).1 p ≤ lf ar (lk_m1 ar n i nu gr).1 p := by
  induction n with
  | zero => intro i nu gr _ h; exact h
  | succ n ih =>
    intro i nu gr hi h
    have hs : ∀ p, p < 28 → nu p ≤ sl_u nu i (lk_lf ar nu i 28 0 0) p := by
      intro p hp
      by_cases e : p = i
      · subst e; rw [sl_u_eq]; exact h p hp
      · rw [sl_u_ne e]; exact Nat.le_refl _
    refine ih (i + 1) _ _ (by omega) (fun p hp => ?_)
    by_cases e : p = i
    · subst e
      have : sl_u nu p (lk_lf ar nu p 28 0 0) p = lf ar nu p := sl_u_eq
      rw [this]
      exact lf_mono hs
    · rw [sl_u_ne e]
      exact Nat.le_trans (h p hp) (lf_mono hs)
theorem lk_mo_eq {ar : Nat → Int32} (hc : ∀ p, p < 28 → sl_bt (lk_wa 28 0 ar p) p = false) : ∀ (n k : Nat) (nu : Nat → Nat), n + k = 28 → (∀ p, p < 28 → lw ar k p ≤ nu p) → (∀ p, p < 28 → nu p ≤ lw ar 27 p) → (∀ p, p < 28 → nu p ≤ lf ar nu p) → ∀ p, p < 28 → lk_mo ar n nu true p = lw ar 27 p := by
  have hL := fun p (hp : p < 28) => lw_fix hc hp
  intro n
  induction n with
  | zero =>
    intro k nu hk h1 h2 h3 p hp
    have e : k = 28 := by omega
    subst e
    have := h1 p hp
    have h4 := h2 p hp
    have h5 : lw ar (27 + 1) p = lw ar 27 p := lw_st hc 27 p hp (rkc_27 hc hp)
    have h6 : lw ar (27 + 1) p ≤ nu p := this
    show nu p = _
    omega
  | succ n ih =>
    intro k nu hk h1 h2 h3 p hp
    show lk_mo ar n (lk_m1 ar 28 0 nu false).1 (lk_m1 ar 28 0 nu false).2 p = _
    have g1 := lk_m1_ge (ar := ar) (k := k) 28 0 nu false (by omega) (fun p hp => by omega) h1
    have g2 := lk_m1_lt hL 28 0 nu false (by omega) h2
    have g3 := lk_m1_mo (ar := ar) 28 0 nu false (by omega) h3
    cases hg : (lk_m1 ar 28 0 nu false).2 with
    | true => exact ih (k + 1) _ (by omega) g1 g2 g3 p hp
    | false =>
      obtain ⟨-, a2, a3⟩ := lk_m1_no 28 0 nu false h3 (by omega) hg
      rw [a2]
      have hf : lk_mo ar n nu false p = nu p := by cases n <;> rfl
      rw [hf]
      apply Nat.le_antisymm (h2 p hp)
      have : ∀ m p, p < 28 → lw ar m p ≤ nu p := by
        intro m
        induction m with
        | zero => intro p _; exact Nat.zero_le _
        | succ m ihm =>
          intro p hp
          rw [← a3 p (Nat.zero_le p) hp, lw_s]
          exact lf_mono ihm
      exact this 27 p hp
theorem lk_N_eq {ar : Nat → Int32} (hc : ∀ p, p < 28 → sl_bt (lk_wa 28 0 ar p) p = false) {p : Nat} (hp : p < 28) : lk_mo ar 28 (fun _ => 0) true p = lw ar 27 p := lk_mo_eq hc 28 0 (fun _ => 0) (by omega) (fun _ _ => Nat.le_refl _) (fun _ _ => Nat.zero_le _) (fun _ _ => Nat.zero_le _) p hp
theorem lw_27 {ar : Nat → Int32} (n : Nat) : ∀ p, lw ar n p ≤ n := by
  induction n with
  | zero => intro p; exact Nat.le_refl 0
  | succ n ih =>
    intro p
    rw [lw_s, lf_le]
    intro q _ _
    have := ih q
    omega
