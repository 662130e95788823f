/-! ways back, and the ring -/
theorem sl_fn_ex {p : Nat → Bool} (n : Nat) : ∀ i, (sl_fn p n i).isSome = sl_ex p n i := by
  induction n with
  | zero => intro i; rfl
  | succ n ih =>
    intro i
    rw [sl_fn, sl_ex, ← ih (i + 1)]
    cases p i <;> rfl
theorem sl_fn_congr {p p' : Nat → Bool} (n : Nat) : ∀ i, (∀ k, i ≤ k → k < i + n → p k = p' k) → sl_fn p n i = sl_fn p' n i := by
  induction n with
  | zero => intro i _; rfl
  | succ n ih =>
    intro i h
    simp only [sl_fn]
    rw [h i (Nat.le_refl i) (by omega), ih (i + 1) (fun k h1 h2 => h k (by omega) (by omega))]
theorem sl_fn_first {p : Nat → Bool} (n : Nat) : ∀ i k, sl_fn p n i = some k → ∀ j, i ≤ j → j < k → p j = false := by
  induction n with
  | zero => intro i k h; cases h
  | succ n ih =>
    intro i k h j h1 h2
    simp only [sl_fn] at h
    cases hp : p i with
    | true =>
      rw [hp] at h
      have : i = k := Option.some.inj h
      omega
    | false =>
      rw [hp] at h
      rcases Nat.eq_or_lt_of_le h1 with q | q
      · subst q; exact hp
      · exact ih (i + 1) k h j q h2
theorem sl_fn_none' {p : Nat → Bool} (n : Nat) : ∀ i, sl_fn p n i = none → ∀ j, i ≤ j → j < i + n → p j = false := by
  induction n with
  | zero => intro i _ j h1 h2; omega
  | succ n ih =>
    intro i h j h1 h2
    simp only [sl_fn] at h
    cases hp : p i with
    | true => rw [hp] at h; cases h
    | false =>
      rw [hp] at h
      rcases Nat.eq_or_lt_of_le h1 with q | q
      · subst q; exact hp
      · exact ih (i + 1) h j q (by omega)
theorem sl_fn_of {p : Nat → Bool} {n k : Nat} (h1 : k < n) (h2 : p k = true) (h3 : ∀ j, j < k → p j = false) : sl_fn p n 0 = some k := by
  cases h : sl_fn p n 0 with
  | none => exact absurd (h2.symm.trans (sl_fn_none' n 0 h k (Nat.zero_le k) (by omega))) (by decide)
  | some j =>
    obtain ⟨_, g1, g2⟩ := sl_fn_lt n 0 j h
    rcases Nat.lt_trichotomy j k with q | q | q
    · rw [h3 j q] at g2; cases g2
    · rw [q]
    · have := sl_fn_first n 0 j h k (Nat.zero_le k) q
      rw [this] at h2; cases h2
/-- a round of looking back: whoever has an arc to one at distance n -/
def dst (ar : Nat → Int32) (n : Nat) (R : Nat → Option Nat) : Nat → Option Nat := fun p => match R p with
  | some d => some d
  | none => cond (sl_ex (fun q => sl_bt (ar p) q && decide (R q = some n)) 28 0) (some (n + 1)) none
def dN (ar : Nat → Int32) (s : Nat) : Nat → Nat → Option Nat
  | 0 => fun p => if p = s then some 0 else none
  | n + 1 => dst ar n (dN ar s n)
theorem dN_s (ar : Nat → Int32) (s n : Nat) : dN ar s (n + 1) = dst ar n (dN ar s n) := rfl
theorem dst_some {ar : Nat → Int32} {n : Nat} {R : Nat → Option Nat} {p d : Nat} (h : R p = some d) : dst ar n R p = some d := by unfold dst; rw [h]
theorem dst_cases {ar : Nat → Int32} {n : Nat} {R : Nat → Option Nat} {p d : Nat} (h : dst ar n R p = some d) : R p = some d ∨ (R p = none ∧ d = n + 1 ∧ ∃ q, q < 28 ∧ sl_bt (ar p) q = true ∧ R q = some n) := by
  unfold dst at h
  cases hR : R p with
  | some e => rw [hR] at h; exact Or.inl h
  | none =>
    rw [hR] at h
    simp only at h
    cases he : sl_ex (fun q => sl_bt (ar p) q && decide (R q = some n)) 28 0 with
    | false => rw [he] at h; cases h
    | true =>
      rw [he] at h
      obtain ⟨q, _, h2, h3⟩ := (sl_ex_iff 28 0).mp he
      rw [Bool.and_eq_true] at h3
      exact Or.inr ⟨rfl, (Option.some.inj h).symm, q, by omega, h3.1, of_decide_eq_true h3.2⟩
theorem dst_none {ar : Nat → Int32} {n : Nat} {R : Nat → Option Nat} {p : Nat} (h : R p = none) (hx : ∀ q, q < 28 → sl_bt (ar p) q = true → R q ≠ some n) : dst ar n R p = none := by
  cases hd : dst ar n R p with
  | none => rfl
  | some d =>
    rcases dst_cases hd with g | ⟨-, -, q, g1, g2, g3⟩
    · rw [h] at g; cases g
    · exact absurd g3 (hx q g1 g2)
theorem dN_le {ar : Nat → Int32} {s : Nat} (n : Nat) : ∀ p d, dN ar s n p = some d → d ≤ n ∧ dN ar s d p = some d := by
  induction n with
  | zero =>
    intro p d h
    have h' : (if p = s then some 0 else none) = some d := h
    split at h'
    · have : 0 = d := Option.some.inj h'
      subst this
      exact ⟨Nat.le_refl 0, h⟩
    · cases h'
  | succ n ih =>
    intro p d h
    rcases dst_cases h with g | ⟨-, g, -⟩
    · obtain ⟨a, b⟩ := ih p d g
      exact ⟨by omega, b⟩
    · subst g
      exact ⟨Nat.le_refl _, h⟩
theorem dN_keep {ar : Nat → Int32} {s : Nat} {p d n : Nat} (h : dN ar s n p = some d) (m : Nat) : dN ar s (n + m) p = some d := by
  induction m with
  | zero => exact h
  | succ m ih => exact dst_some ih
theorem dN_hi {ar : Nat → Int32} {s : Nat} (hz : gz ar) (hs : s < 28) (n : Nat) : ∀ p, 28 ≤ p → dN ar s n p = none := by
  induction n with
  | zero => intro p hp; show (if p = s then some 0 else none) = none; rw [if_neg (by omega)]
  | succ n ih =>
    intro p hp
    refine dst_none (ih p hp) (fun q _ hb => ?_)
    rw [hz.1 p hp, sl_bt_0] at hb
    cases hb
theorem dN_fix {ar : Nat → Int32} {s n : Nat} (h : dN ar s (n + 1) = dN ar s n) : dN ar s (n + 1 + 1) = dN ar s (n + 1) := by
  funext p
  cases hp : dN ar s (n + 1) p with
  | some d => exact dst_some hp
  | none =>
    refine dst_none hp (fun q _ _ g => ?_)
    rw [h] at g
    have := (dN_le n q (n + 1) g).1
    omega
theorem dN_fixn {ar : Nat → Int32} {s n : Nat} (h : dN ar s (n + 1) = dN ar s n) (m : Nat) : dN ar s (n + m) = dN ar s n := by
  have hk : ∀ m, dN ar s (n + m + 1) = dN ar s (n + m) := by
    intro m
    induction m with
    | zero => exact h
    | succ m ih => exact dN_fix ih
  induction m with
  | zero => rfl
  | succ m ih => exact (hk m).trans ih
theorem dN_27 {ar : Nat → Int32} {s : Nat} (hz : gz ar) (hs : s < 28) : dN ar s (27 + 1) = dN ar s 27 := by
  have hx : ∀ n, dN ar s (n + 1) = dN ar s n ∨ sl_ct (fun p => (dN ar s n p).isSome) 28 0 < sl_ct (fun p => (dN ar s (n + 1) p).isSome) 28 0 := by
    intro n
    by_cases h : ∃ k, 0 ≤ k ∧ k < 0 + 28 ∧ (dN ar s n k).isSome = false ∧ (dN ar s (n + 1) k).isSome = true
    · refine Or.inr ((sl_ct_mono 28 0 (fun k _ _ g => ?_)).2 h)
      cases hd : dN ar s n k with
      | none => rw [hd] at g; cases g
      | some d => rw [dN_s, dst_some hd]; rfl
    · left
      funext p
      cases hd : dN ar s n p with
      | some d => rw [dN_s, dst_some hd]
      | none =>
        cases hd' : dN ar s (n + 1) p with
        | none => rfl
        | some d =>
          rcases Nat.lt_or_ge p 28 with q | q
          · exact absurd ⟨p, Nat.zero_le p, by omega, by rw [hd]; rfl, by rw [hd']; rfl⟩ h
          · rw [dN_hi hz hs (n + 1) p q] at hd'; cases hd'
  have h0 : 1 ≤ sl_ct (fun p => (dN ar s 0 p).isSome) 28 0 := by
    have := (sl_ct_mono (p := fun _ => false) (p' := fun p => (dN ar s 0 p).isSome) 28 0 (fun k _ _ g => by cases g)).2 ⟨s, Nat.zero_le s, by omega, rfl, by show (if s = s then some 0 else none).isSome = true; rw [if_pos rfl]; rfl⟩
    omega
  have hk : ∀ j, dN ar s (j + 1) = dN ar s j ∨ j + 1 ≤ sl_ct (fun p => (dN ar s j p).isSome) 28 0 := by
    intro j
    induction j with
    | zero => exact Or.inr h0
    | succ j ih =>
      rcases ih with ih | ih
      · exact Or.inl (dN_fix ih)
      · rcases hx j with q | q
        · exact Or.inl (dN_fix q)
        · right; omega
  rcases hk 27 with h | h
  · exact h
  · have h2 := sl_ct_le (fun p => (dN ar s 27 p).isSome) 28 0
    funext p
    rcases Nat.lt_or_ge p 28 with q | q
    · have h3 := sl_ct_full (p := fun p => (dN ar s 27 p).isSome) 28 0 (by omega) p (Nat.zero_le p) (by omega)
      cases hd : dN ar s 27 p with
      | none => simp only [hd] at h3; cases h3
      | some d => rw [dN_s, dst_some hd]
    · rw [dN_hi hz hs _ p q, dN_hi hz hs _ p q]
theorem dN_ge {ar : Nat → Int32} {s : Nat} (hz : gz ar) (hs : s < 28) {n : Nat} (hn : 27 ≤ n) : dN ar s n = dN ar s 27 := by
  have := dN_fixn (dN_27 hz hs) (n - 27)
  rwa [show 27 + (n - 27) = n by omega] at this
theorem dN_0 {ar : Nat → Int32} {s n p : Nat} (h : dN ar s n p = some 0) : p = s := by
  have h' : (if p = s then some 0 else none) = some 0 := (dN_le n p 0 h).2
  split at h'
  · assumption
  · cases h'
theorem dN_back {ar : Nat → Int32} {s : Nat} (n : Nat) : ∀ p d, dN ar s n p = some (d + 1) → ∃ q, q < 28 ∧ sl_bt (ar p) q = true ∧ dN ar s n q = some d := by
  induction n with
  | zero =>
    intro p d h
    have h' : (if p = s then some 0 else none) = some (d + 1) := h
    split at h'
    · exact absurd (Option.some.inj h') (by omega)
    · cases h'
  | succ n ih =>
    intro p d h
    rcases dst_cases h with g | ⟨-, g, q, g1, g2, g3⟩
    · obtain ⟨q, a, b, c⟩ := ih p d g
      exact ⟨q, a, b, dst_some c⟩
    · have e : d = n := by omega
      subst e
      exact ⟨q, g1, g2, dst_some g3⟩
theorem dN_arc {ar : Nat → Int32} {s : Nat} (hz : gz ar) (hs : s < 28) {p q d : Nat} (hq : q < 28) (hb : sl_bt (ar p) q = true) (h : dN ar s 27 q = some d) : dN ar s 27 p ≠ none := by
  intro hn
  obtain ⟨hd, hdd⟩ := dN_le 27 q d h
  have h1 : dN ar s (d + 1) p ≠ none := by
    rw [dN_s]
    cases hp : dN ar s d p with
    | some e => rw [dst_some hp]; intro g; cases g
    | none =>
      unfold dst
      rw [hp]
      simp only
      rw [(sl_ex_iff (p := fun q => sl_bt (ar p) q && decide (dN ar s d q = some d)) 28 0).mpr ⟨q, Nat.zero_le q, by omega, by rw [hb, decide_eq_true hdd]; rfl⟩]
      intro g; cases g
  cases hp : dN ar s (d + 1) p with
  | none => exact h1 hp
  | some e =>
    have h2 := dN_keep hp 27
    rw [dN_ge hz hs (show 27 ≤ d + 1 + 27 by omega), hn] at h2
    cases h2
/-- as the class writes it: 28 where there is none -/
def den (R : Nat → Option Nat) : Nat → Nat := fun p => if p < 28 then (R p).getD 28 else 0
theorem den_eq {R : Nat → Option Nat} {m p : Nat} (hp : p < 28) (hm : m < 28) : den R p = m ↔ R p = some m := by
  unfold den
  rw [if_pos hp]
  cases h : R p with
  | none => exact ⟨fun g => by simp at g; omega, fun g => by cases g⟩
  | some d => exact ⟨fun g => by simp at g; rw [g], fun g => by rw [Option.some.inj g]; rfl⟩
theorem den_28 {R : Nat → Option Nat} {p : Nat} (hp : p < 28) (hR : ∀ d, R p = some d → d < 28) : den R p = 28 ↔ R p = none := by
  unfold den
  rw [if_pos hp]
  cases h : R p with
  | none => exact ⟨fun _ => rfl, fun _ => rfl⟩
  | some d => exact ⟨fun g => by have := hR d h; simp at g; omega, fun g => by cases g⟩
theorem den_ln {ar : Nat → Int32} {R : Nat → Option Nat} {k m : Nat} (hm : m < 28) : lk_ln ar (den R) k m = sl_fn (fun q => sl_bt (ar k) q && decide (R q = some m)) 28 0 := by
  unfold lk_ln
  refine sl_fn_congr 28 0 (fun q _ hq => ?_)
  congr 1
  exact decide_eq_decide.mpr (den_eq (by omega) hm)
theorem lk_b1_at {ar : Nat → Int32} {R : Nat → Option Nat} {m : Nat} (hm : m + 1 < 28) (hR : ∀ p d, R p = some d → d ≤ m) (n : Nat) : ∀ (i : Nat) (gr : Bool), i + n = 28 → ∃ g', lk_b1 ar (m + 1) n i (den (fun p => if p < i then dst ar m R p else R p), gr) = (den (dst ar m R), g') ∧ (g' = false → gr = false ∧ ∀ p, i ≤ p → p < 28 → dst ar m R p = R p) := by
  induction n with
  | zero =>
    intro i gr hi
    refine ⟨gr, ?_, fun h => ⟨h, fun p h1 h2 => by omega⟩⟩
    show (_, gr) = _
    congr 1
    funext p
    unfold den
    by_cases hp : p < 28
    · simp only [if_pos hp, if_pos (show p < i by omega)]
    · rw [if_neg hp, if_neg hp]
  | succ n ih =>
    intro i gr hi
    have hlt : ∀ d, (fun p => if p < i then dst ar m R p else R p) i = some d → d < 28 := by
      intro d h
      simp only [Nat.lt_irrefl, if_false] at h
      have := hR i d h
      omega
    have hx : lk_ln ar (den (fun p => if p < i then dst ar m R p else R p)) i m = sl_fn (fun q => sl_bt (ar i) q && decide (R q = some m)) 28 0 := by
      rw [den_ln (by omega)]
      refine sl_fn_congr 28 0 (fun q _ _ => ?_)
      congr 1
      apply decide_eq_decide.mpr
      by_cases h : q < i
      · rw [if_pos h]
        constructor
        · intro g
          rcases dst_cases g with g | ⟨-, g, -⟩
          · exact g
          · omega
        · intro g; exact dst_some g
      · rw [if_neg h]
    have hstep : lk_b1 ar (m + 1) (n + 1) i (den (fun p => if p < i then dst ar m R p else R p), gr) = lk_b1 ar (m + 1) n (i + 1) (cond (decide (den (fun p => if p < i then dst ar m R p else R p) i = 28) && (lk_ln ar (den (fun p => if p < i then dst ar m R p else R p)) i (m + 1 - 1)).isSome) (sl_u (den (fun p => if p < i then dst ar m R p else R p)) i (m + 1), true) (den (fun p => if p < i then dst ar m R p else R p), gr)) := rfl
    rw [hstep, show m + 1 - 1 = m by omega, hx, sl_fn_ex]
    have hd : decide (den (fun p => if p < i then dst ar m R p else R p) i = 28) = decide (R i = none) := by
      apply decide_eq_decide.mpr
      rw [den_28 (by omega) hlt]
      simp
    rw [hd]
    by_cases hc : R i = none ∧ sl_ex (fun q => sl_bt (ar i) q && decide (R q = some m)) 28 0 = true
    · rw [decide_eq_true hc.1, hc.2, Bool.true_and, cond_true]
      have e1 : sl_u (den (fun p => if p < i then dst ar m R p else R p)) i (m + 1) = den (fun p => if p < i + 1 then dst ar m R p else R p) := by
        funext p
        by_cases hp : p = i
        · subst hp
          rw [sl_u_eq]
          unfold den dst
          rw [if_pos (show p < 28 by omega)]
          simp only [if_pos (show p < p + 1 by omega), hc.1, hc.2]
          rfl
        · rw [sl_u_ne hp]
          unfold den
          by_cases h28 : p < 28
          · rw [if_pos h28, if_pos h28]
            by_cases hpi : p < i
            · simp only [if_pos hpi, if_pos (show p < i + 1 by omega)]
            · simp only [if_neg hpi, if_neg (show ¬ p < i + 1 by omega)]
          · rw [if_neg h28, if_neg h28]
      rw [e1]
      obtain ⟨g', h1, h2⟩ := ih (i + 1) true (by omega)
      refine ⟨g', h1, fun h => absurd (h2 h).1 (by decide)⟩
    · have hf : (decide (R i = none) && sl_ex (fun q => sl_bt (ar i) q && decide (R q = some m)) 28 0) = false := by
        cases hb : (decide (R i = none) && sl_ex (fun q => sl_bt (ar i) q && decide (R q = some m)) 28 0) with
        | false => rfl
        | true =>
          rw [Bool.and_eq_true] at hb
          exact absurd ⟨of_decide_eq_true hb.1, hb.2⟩ hc
      rw [hf, cond_false]
      have hdi : dst ar m R i = R i := by
        cases hRi : R i with
        | some d => exact dst_some hRi
        | none =>
          unfold dst
          rw [hRi]
          simp only
          rw [decide_eq_true hRi, Bool.true_and] at hf
          rw [hf]
          rfl
      have e1 : (fun p => if p < i then dst ar m R p else R p) = fun p => if p < i + 1 then dst ar m R p else R p := by
        funext p
        by_cases hp : p = i
        · subst hp
          rw [if_neg (by omega), if_pos (by omega), hdi]
        · by_cases hpi : p < i
          · rw [if_pos hpi, if_pos (by omega)]
          · rw [if_neg hpi, if_neg (by omega)]
      rw [e1]
      obtain ⟨g', h1, h2⟩ := ih (i + 1) gr (by omega)
      refine ⟨g', h1, fun h => ⟨(h2 h).1, fun p g1 g2 => ?_⟩⟩
      rcases Nat.eq_or_lt_of_le g1 with q | q
      · subst q; exact hdi
      · exact (h2 h).2 p q g2
theorem lk_bo_eq {ar : Nat → Int32} {s : Nat} (hz : gz ar) (hs : s < 28) (n : Nat) : ∀ m, n + m = 27 → lk_bo ar n (m + 1) (den (dN ar s m)) true = den (dN ar s 27) := by
  induction n with
  | zero =>
    intro m hm
    rw [show m = 27 by omega]
    rfl
  | succ n ih =>
    intro m hm
    obtain ⟨g', h1, h2⟩ := lk_b1_at (ar := ar) (R := dN ar s m) (m := m) (by omega) (fun p d h => (dN_le m p d h).1) 28 0 false (by omega)
    have e0 : (fun p => if p < 0 then dst ar m (dN ar s m) p else dN ar s m p) = dN ar s m := by
      funext p; rw [if_neg (by omega)]
    rw [e0] at h1
    show cond true (lk_bo ar n (m + 1 + 1) (lk_b1 ar (m + 1) 28 0 (den (dN ar s m), false)).1 (lk_b1 ar (m + 1) 28 0 (den (dN ar s m), false)).2) _ = _
    rw [cond_true, h1]
    cases g' with
    | true => exact ih (m + 1) (by omega)
    | false =>
      have hf : dN ar s (m + 1) = dN ar s m := by
        funext p
        rcases Nat.lt_or_ge p 28 with q | q
        · exact (h2 rfl).2 p (Nat.zero_le p) q
        · rw [dN_hi hz hs _ p q, dN_hi hz hs _ p q]
      have e2 : lk_bo ar n (m + 1 + 1) (den (dst ar m (dN ar s m))) false = den (dst ar m (dN ar s m)) := by cases n <;> rfl
      show lk_bo ar n (m + 1 + 1) (den (dst ar m (dN ar s m))) false = _
      rw [e2, ← dN_s, hf]
      have := dN_fixn hf (27 - m)
      rw [show m + (27 - m) = 27 by omega] at this
      rw [this]
theorem lk_bk_eq {ar : Nat → Int32} {s : Nat} (hz : gz ar) (hs : s < 28) : lk_bk ar s = den (dN ar s 27) := by
  rw [← lk_bo_eq hz hs 27 0 (by omega)]
  unfold lk_bk
  congr 1
  funext p
  unfold den
  show _ = if p < 28 then (if p = s then some 0 else none).getD 28 else 0
  by_cases h : p = s
  · rw [if_pos h, if_pos (by omega), if_pos h]; rfl
  · rw [if_neg h, if_neg h]; rfl
