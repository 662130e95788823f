/-! the ring's knots; what the reference's rounds make -/
section RGK
variable {ar : Nat → Int32} {s : Nat}
theorem lk_wr_spec {ba : Nat → Nat} (n : Nat) : ∀ i, (∃ f, i ≤ f ∧ f < i + n ∧ (lk_ln ar ba s f).isSome = true) → ∃ L, lk_wr ar ba s n i = L + 1 ∧ i ≤ L ∧ L < i + n ∧ (lk_ln ar ba s L).isSome = true ∧ ∀ f, i ≤ f → f < L → lk_ln ar ba s f = none := by
  induction n with
  | zero => rintro i ⟨f, h1, h2, _⟩; omega
  | succ n ih =>
    rintro i ⟨f, h1, h2, h3⟩
    simp only [lk_wr]
    cases hi : (lk_ln ar ba s i).isSome with
    | true => exact ⟨i, rfl, Nat.le_refl i, by omega, hi, fun f g1 g2 => by omega⟩
    | false =>
      have hne : f ≠ i := fun e => by rw [e, hi] at h3; cases h3
      obtain ⟨L, a1, a2, a3, a4, a5⟩ := ih (i + 1) ⟨f, by omega, by omega, h3⟩
      refine ⟨L, a1, by omega, by omega, a4, fun f g1 g2 => ?_⟩
      rcases Nat.eq_or_lt_of_le g1 with q | q
      · subst q
        cases hf : lk_ln ar ba s i with
        | none => rfl
        | some k => rw [hf] at hi; cases hi
      · exact a5 f q g2
theorem ln_some {k m q : Nat} (hz : gz ar) (hs : s < 28) (hm : m < 28) (h : lk_ln ar (lk_bk ar s) k m = some q) : q < 28 ∧ sl_bt (ar k) q = true ∧ dN ar s 27 q = some m ∧ ∀ j, j < q → ¬ (sl_bt (ar k) j = true ∧ dN ar s 27 j = some m) := by
  rw [lk_bk_eq hz hs, den_ln hm] at h
  obtain ⟨_, h1, h2⟩ := sl_fn_lt 28 0 q h
  rw [Bool.and_eq_true] at h2
  refine ⟨by omega, h2.1, of_decide_eq_true h2.2, fun j hj g => ?_⟩
  have := sl_fn_first 28 0 q h j (Nat.zero_le j) hj
  rw [g.1, decide_eq_true g.2] at this
  cases this
theorem ln_ex {k m q : Nat} (hz : gz ar) (hs : s < 28) (hm : m < 28) (hq : q < 28) (h1 : sl_bt (ar k) q = true) (h2 : dN ar s 27 q = some m) : (lk_ln ar (lk_bk ar s) k m).isSome = true := by
  rw [lk_bk_eq hz hs, den_ln hm, sl_fn_ex, sl_ex_iff]
  exact ⟨q, Nat.zero_le q, by omega, by rw [h1, decide_eq_true h2]; rfl⟩
/-- a ring of s: how many more arcs than one, s reached from itself -/
theorem rl_spec (hz : gz ar) (hs : s < 28) (hr : sl_bt (lk_wa 28 0 ar s) s = true) : ∃ L, lk_rl ar s = L + 1 ∧ L < 28 ∧ (lk_ln ar (lk_bk ar s) s L).isSome = true ∧ ∀ f, f < L → lk_ln ar (lk_bk ar s) s f = none := by
  have h0 : dN ar s 27 s ≠ none := by
    have h0 : dN ar s 0 s = some 0 := if_pos rfl
    have := dN_keep h0 27
    rw [Nat.zero_add] at this
    rw [this]; intro g; cases g
  obtain ⟨-, m, h1, h2, h3⟩ := lk_wa_so ar (P := fun q => dN ar s 27 q ≠ none) (fun p q hp hq hb h => by
    cases hd : dN ar s 27 q with
    | none => exact absurd hd h
    | some d => exact dN_arc hz hs hq hb hd) 28 (Nat.le_refl 28) s s hs hs hr h0
  cases hd : dN ar s 27 m with
  | none => exact absurd hd h3
  | some d =>
    have hd27 := (dN_le 27 m d hd).1
    obtain ⟨L, a1, a2, a3, a4, a5⟩ := lk_wr_spec (ar := ar) (s := s) (ba := lk_bk ar s) 28 0 ⟨d, Nat.zero_le d, by omega, ln_ex hz hs (by omega) h1 h2 hd⟩
    exact ⟨L, a1, by omega, a4, fun f hf => a5 f (Nat.zero_le f) hf⟩
/-- the knots of the ring -/
def kq (ar : Nat → Int32) (s : Nat) : Nat → Option Nat
  | 0 => some s
  | i + 1 => (kq ar s i).bind fun k => lk_ln ar (lk_bk ar s) k (lk_rl ar s - 1 - i)
theorem kq_spec (hz : gz ar) (hs : s < 28) (hr : sl_bt (lk_wa 28 0 ar s) s = true) (i : Nat) : i ≤ lk_rl ar s → ∃ k, kq ar s i = some k ∧ k < 28 ∧ (1 ≤ i → dN ar s 27 k = some (lk_rl ar s - i)) ∧ (i < lk_rl ar s → ∃ q, lk_ln ar (lk_bk ar s) k (lk_rl ar s - 1 - i) = some q ∧ kq ar s (i + 1) = some q) := by
  obtain ⟨L, h1, h2, h3, h4⟩ := rl_spec hz hs hr
  have nxt : ∀ i k, kq ar s i = some k → (lk_ln ar (lk_bk ar s) k (lk_rl ar s - 1 - i)).isSome = true → ∃ q, lk_ln ar (lk_bk ar s) k (lk_rl ar s - 1 - i) = some q ∧ kq ar s (i + 1) = some q := by
    intro i k hk h
    cases hq : lk_ln ar (lk_bk ar s) k (lk_rl ar s - 1 - i) with
    | none => rw [hq] at h; cases h
    | some q => exact ⟨q, rfl, by simp only [kq, hk, Option.bind]; exact hq⟩
  induction i with
  | zero =>
    intro _
    refine ⟨s, rfl, hs, fun h => by omega, fun _ => nxt 0 s rfl ?_⟩
    rw [h1, show L + 1 - 1 - 0 = L by omega]
    exact h3
  | succ i ih =>
    intro hi
    obtain ⟨k, a1, a2, a3, a4⟩ := ih (by omega)
    obtain ⟨q, b1, b2⟩ := a4 (by omega)
    obtain ⟨c1, c2, c3, c4⟩ := ln_some hz hs (by omega) b1
    have c3' : dN ar s 27 q = some (lk_rl ar s - (i + 1)) := by rw [c3]; congr 1; omega
    refine ⟨q, b2, c1, fun _ => c3', fun hlt => nxt (i + 1) q b2 ?_⟩
    have e : lk_rl ar s - (i + 1) = (lk_rl ar s - 1 - (i + 1)) + 1 := by omega
    rw [e] at c3'
    obtain ⟨p, d1, d2, d3⟩ := dN_back 27 q _ c3'
    exact ln_ex hz hs (by omega) d1 d2 d3
theorem lk_wk_at (hz : gz ar) (hs : s < 28) (hr : sl_bt (lk_wa 28 0 ar s) s = true) (n : Nat) : ∀ (i k : Nat) (rk : Nat → Nat), kq ar s i = some k → i + n = lk_rl ar s → ∀ j, (j < i → lk_wk ar (lk_bk ar s) (lk_rl ar s) n i (some k) rk j = rk j) ∧ (i ≤ j → j < lk_rl ar s → kq ar s j = some (lk_wk ar (lk_bk ar s) (lk_rl ar s) n i (some k) rk j)) := by
  induction n with
  | zero => intro i k rk hk hi j; exact ⟨fun _ => rfl, fun h1 h2 => by omega⟩
  | succ n ih =>
    intro i k rk hk hi j
    obtain ⟨k', a1, a2, a3, a4⟩ := kq_spec hz hs hr i (by omega)
    rw [hk] at a1
    have e := Option.some.inj a1
    subst e
    obtain ⟨q, b1, b2⟩ := a4 (by omega)
    have hw : lk_wk ar (lk_bk ar s) (lk_rl ar s) (n + 1) i (some k) rk = lk_wk ar (lk_bk ar s) (lk_rl ar s) n (i + 1) (some q) (sl_u rk i k) := by
      rw [lk_wk, b1]
    rw [hw]
    obtain ⟨c1, c2⟩ := ih (i + 1) q (sl_u rk i k) b2 (by omega) j
    refine ⟨fun h => ?_, fun h1 h2 => ?_⟩
    · rw [c1 (by omega), sl_u_ne (by omega)]
    · rcases Nat.eq_or_lt_of_le h1 with g | g
      · subst g
        rw [c1 (by omega), sl_u_eq]
        exact hk
      · exact c2 g h2
theorem lk_fr_n {re : Nat → Int32} (n : Nat) : ∀ (i : Nat) (q : Nat × (Nat → Nat) × (Nat → Nat)), (q.1 ≠ 0 ∨ ∀ p, i ≤ p → p < i + n → sl_bt (re p) p = false) → lk_fr ar re n i q = q := by
  induction n with
  | zero => intro i q _; rfl
  | succ n ih =>
    intro i q h
    rw [lk_fr]
    by_cases h0 : q.1 = 0
    · have h' := h.resolve_left (fun g => g h0)
      rw [decide_eq_true h0, cond_true, h' i (Nat.le_refl i) (by omega), cond_false]
      exact ih (i + 1) q (Or.inr (fun p g1 g2 => h' p (by omega) (by omega)))
    · rw [decide_eq_false h0, cond_false]
theorem lk_fr_s {re : Nat → Int32} {p0 : Nat} (hp : sl_bt (re p0) p0 = true) (hl : lk_rl ar p0 ≠ 0) (n : Nat) : ∀ (i : Nat) (q : Nat × (Nat → Nat) × (Nat → Nat)), q.1 = 0 → i ≤ p0 → p0 < i + n → (∀ p, i ≤ p → p < p0 → sl_bt (re p) p = false) → lk_fr ar re n i q = (lk_rl ar p0, lk_wk ar (lk_bk ar p0) (lk_rl ar p0) (lk_rl ar p0) 0 (some p0) q.2.1, lk_bk ar p0) := by
  induction n with
  | zero => intro i q _ h1 h2; omega
  | succ n ih =>
    intro i q h0 h1 h2 h3
    rw [lk_fr, decide_eq_true h0, cond_true]
    rcases Nat.eq_or_lt_of_le h1 with g | g
    · subst g
      rw [hp, cond_true]
      exact lk_fr_n n (i + 1) _ (Or.inl hl)
    · rw [h3 i (Nat.le_refl i) g, cond_false]
      exact ih (i + 1) q h0 g (by omega) (fun p g1 g2 => h3 p (by omega) g2)
/-- a round of the reference's looking back -/
def rb1 (ar : Nat → Int32) (n m i : Nat) (R : Nat → Option Nat) : Nat → Option Nat := sl_fo (fun p R => cond (decide (R p = none) && sl_ex (fun q => sl_bt (ar p) q && decide (R q = some (n - 1))) 32 0) (sl_u R p (some n)) R) m i R
theorem ex_32 (hz : gz ar) {p : Nat} {P : Nat → Bool} : sl_ex (fun q => sl_bt (ar p) q && P q) 32 0 = sl_ex (fun q => sl_bt (ar p) q && P q) 28 0 := by
  apply Bool.eq_iff_iff.mpr
  rw [sl_ex_iff, sl_ex_iff]
  constructor
  · rintro ⟨k, h1, h2, h3⟩
    refine ⟨k, h1, ?_, h3⟩
    rcases Nat.lt_or_ge k 28 with q | q
    · omega
    · rw [Bool.and_eq_true] at h3
      rw [hz.2 p k q (by omega)] at h3
      cases h3.1
  · rintro ⟨k, h1, h2, h3⟩
    exact ⟨k, h1, by omega, h3⟩
theorem rb1_at (hz : gz ar) {R : Nat → Option Nat} {k : Nat} (n : Nat) : ∀ (i : Nat) (R' : Nat → Option Nat), (∀ p, i ≤ p → R' p = R p) → (∀ q, R' q = some k ↔ R q = some k) → rb1 ar (k + 1) n i R' = fun p => if i ≤ p ∧ p < i + n then dst ar k R p else R' p := by
  induction n with
  | zero =>
    intro i R' _ _
    funext p
    rw [if_neg (by omega)]
    rfl
  | succ n ih =>
    intro i R' h1 h2
    have hi := h1 i (Nat.le_refl i)
    have hx : sl_ex (fun q => sl_bt (ar i) q && decide (R' q = some (k + 1 - 1))) 32 0 = sl_ex (fun q => sl_bt (ar i) q && decide (R q = some k)) 28 0 := by
      rw [ex_32 hz]
      refine sl_ex_congr 28 0 (fun q _ _ => ?_)
      congr 1
      exact decide_eq_decide.mpr (h2 q)
    show rb1 ar (k + 1) n (i + 1) (cond (decide (R' i = none) && sl_ex (fun q => sl_bt (ar i) q && decide (R' q = some (k + 1 - 1))) 32 0) (sl_u R' i (some (k + 1))) R') = _
    rw [hx, hi]
    cases hc : (decide (R i = none) && sl_ex (fun q => sl_bt (ar i) q && decide (R q = some k)) 28 0) with
    | true =>
      rw [Bool.and_eq_true] at hc
      have hn := of_decide_eq_true hc.1
      have hd : dst ar k R i = some (k + 1) := by unfold dst; rw [hn]; simp only; rw [hc.2]; rfl
      rw [cond_true, ih (i + 1)]
      · funext p
        by_cases e : p = i
        · subst e
          rw [if_neg (by omega), if_pos (by omega), sl_u_eq, hd]
        · by_cases g : i + 1 ≤ p ∧ p < i + 1 + n
          · rw [if_pos g, if_pos (by omega)]
          · rw [if_neg g, if_neg (by omega), sl_u_ne e]
      · intro p hp
        rw [sl_u_ne (by omega)]
        exact h1 p (by omega)
      · intro q
        by_cases e : q = i
        · subst e
          rw [sl_u_eq, hn]
          exact ⟨fun g => by have := Option.some.inj g; omega, fun g => by cases g⟩
        · rw [sl_u_ne e]
          exact h2 q
    | false =>
      have hd : dst ar k R i = R i := by
        cases hR : R i with
        | some d => exact dst_some hR
        | none =>
          rw [hR, decide_eq_true rfl, Bool.true_and] at hc
          unfold dst
          rw [hR]
          simp only
          rw [hc]
          rfl
      rw [cond_false, ih (i + 1) R' (fun p hp => h1 p (by omega)) h2]
      funext p
      by_cases e : p = i
      · subst e
        rw [if_neg (by omega), if_pos (by omega), hd, hi]
      · by_cases g : i + 1 ≤ p ∧ p < i + 1 + n
        · rw [if_pos g, if_pos (by omega)]
        · rw [if_neg g, if_neg (by omega)]
theorem rb1_eq (hz : gz ar) {R : Nat → Option Nat} (hR : ∀ p, 28 ≤ p → R p = none) (k : Nat) : rb1 ar (k + 1) 32 0 R = dst ar k R := by
  rw [rb1_at hz (R := R) 32 0 R (fun _ _ => rfl) (fun _ => Iff.rfl)]
  funext p
  by_cases h : p < 32
  · rw [if_pos (by omega)]
  · rw [if_neg (by omega)]
    rw [hR p (by omega)]
    symm
    refine dst_none (hR p (by omega)) (fun q _ hb => ?_)
    rw [hz.1 p (by omega), sl_bt_0] at hb
    cases hb
/-- the least distance over the arcs of s -/
def rmn (ar : Nat → Int32) (s : Nat) (R : Nat → Option Nat) (n i : Nat) (o : Option Nat) : Option Nat := sl_fo (fun q o => cond (sl_bt (ar s) q) (match R q with
  | none => o
  | some d => match o with
    | none => some d
    | some c => if d < c then some d else some c) o) n i o
theorem rmn_spec {R : Nat → Option Nat} (n : Nat) : ∀ (i : Nat) (o : Option Nat), (∀ d, rmn ar s R n i o = some d → o = some d ∨ ∃ q, i ≤ q ∧ q < i + n ∧ sl_bt (ar s) q = true ∧ R q = some d) ∧ (∀ d, (o = some d ∨ ∃ q, i ≤ q ∧ q < i + n ∧ sl_bt (ar s) q = true ∧ R q = some d) → ∃ c, rmn ar s R n i o = some c ∧ c ≤ d) := by
  induction n with
  | zero =>
    intro i o
    exact ⟨fun d h => Or.inl h, fun d h => h.elim (fun g => ⟨d, g, Nat.le_refl d⟩) (fun ⟨q, h1, h2, _⟩ => by omega)⟩
  | succ n ih =>
    intro i o
    have key : ∀ o', (∀ d, o' = some d → o = some d ∨ (sl_bt (ar s) i = true ∧ R i = some d)) → (∀ d, (o = some d ∨ (sl_bt (ar s) i = true ∧ R i = some d)) → ∃ c, o' = some c ∧ c ≤ d) → rmn ar s R (n + 1) i o = rmn ar s R n (i + 1) o' → (∀ d, rmn ar s R (n + 1) i o = some d → o = some d ∨ ∃ q, i ≤ q ∧ q < i + (n + 1) ∧ sl_bt (ar s) q = true ∧ R q = some d) ∧ (∀ d, (o = some d ∨ ∃ q, i ≤ q ∧ q < i + (n + 1) ∧ sl_bt (ar s) q = true ∧ R q = some d) → ∃ c, rmn ar s R (n + 1) i o = some c ∧ c ≤ d) := by
      intro o' h1 h2 h3
      obtain ⟨a1, a2⟩ := ih (i + 1) o'
      rw [h3]
      refine ⟨fun d h => ?_, fun d h => ?_⟩
      · rcases a1 d h with g | ⟨q, g1, g2, g3, g4⟩
        · rcases h1 d g with g | ⟨g3, g4⟩
          · exact Or.inl g
          · exact Or.inr ⟨i, Nat.le_refl i, by omega, g3, g4⟩
        · exact Or.inr ⟨q, by omega, by omega, g3, g4⟩
      · have hh : (o = some d ∨ (sl_bt (ar s) i = true ∧ R i = some d)) ∨ ∃ q, i + 1 ≤ q ∧ q < i + 1 + n ∧ sl_bt (ar s) q = true ∧ R q = some d := by
          rcases h with g | ⟨q, g1, g2, g3, g4⟩
          · exact Or.inl (Or.inl g)
          · rcases Nat.eq_or_lt_of_le g1 with e | e
            · subst e; exact Or.inl (Or.inr ⟨g3, g4⟩)
            · exact Or.inr ⟨q, e, by omega, g3, g4⟩
        rcases hh with g | g
        · obtain ⟨c, c1, c2⟩ := h2 d g
          obtain ⟨c', d1, d2⟩ := a2 c (Or.inl c1)
          exact ⟨c', d1, by omega⟩
        · exact a2 d (Or.inr g)
    cases hb : sl_bt (ar s) i with
    | false => exact key o (fun d h => Or.inl h) (fun d h => h.elim (fun g => ⟨d, g, Nat.le_refl d⟩) (fun g => by rw [hb] at g; cases g.1)) (by simp only [rmn, sl_fo, hb, cond_false])
    | true =>
      cases hR : R i with
      | none => exact key o (fun d h => Or.inl h) (fun d h => h.elim (fun g => ⟨d, g, Nat.le_refl d⟩) (fun g => by rw [hR] at g; cases g.2)) (by simp only [rmn, sl_fo, hb, cond_true, hR])
      | some e =>
        cases ho : o with
        | none =>
          subst ho
          exact key (some e) (fun d h => Or.inr ⟨hb, by rw [hR]; exact h⟩) (fun d h => h.elim (fun g => by cases g) (fun g => ⟨e, rfl, by rw [hR] at g; have := Option.some.inj g.2; omega⟩)) (by simp only [rmn, sl_fo, hb, cond_true, hR])
        | some c =>
          subst ho
          by_cases hlt : e < c
          · exact key (some e) (fun d h => Or.inr ⟨hb, by rw [hR]; exact h⟩) (fun d h => ⟨e, rfl, h.elim (fun g => by have := Option.some.inj g; omega) (fun g => by rw [hR] at g; have := Option.some.inj g.2; omega)⟩) (by simp only [rmn, sl_fo, hb, cond_true, hR, if_pos hlt])
          · exact key (some c) (fun d h => Or.inl h) (fun d h => ⟨c, rfl, h.elim (fun g => by have := Option.some.inj g; omega) (fun g => by rw [hR] at g; have := Option.some.inj g.2; omega)⟩) (by simp only [rmn, sl_fo, hb, cond_true, hR, if_neg hlt])
theorem rmn_eq (hz : gz ar) (hs : s < 28) (hr : sl_bt (lk_wa 28 0 ar s) s = true) : rmn ar s (dN ar s 27) 32 0 none = some (lk_rl ar s - 1) := by
  obtain ⟨L, h1, h2, h3, h4⟩ := rl_spec hz hs hr
  obtain ⟨a1, a2⟩ := rmn_spec (ar := ar) (s := s) (R := dN ar s 27) 32 0 none
  cases hq : lk_ln ar (lk_bk ar s) s L with
  | none => rw [hq] at h3; cases h3
  | some q =>
    obtain ⟨b1, b2, b3, b4⟩ := ln_some hz hs h2 hq
    obtain ⟨c, c1, c2⟩ := a2 L (Or.inr ⟨q, Nat.zero_le q, by omega, b2, b3⟩)
    rcases a1 c c1 with g | ⟨q', g1, g2, g3, g4⟩
    · cases g
    · have hq28 : q' < 28 := by
        rcases Nat.lt_or_ge q' 28 with g | g
        · exact g
        · rw [hz.2 s q' g (by omega)] at g3; cases g3
      have hle : ¬ c < L := fun hlt => by
        have := ln_ex hz hs (show c < 28 by omega) hq28 g3 g4
        rw [h4 c hlt] at this
        cases this
      rw [c1, h1]
      congr 1
      omega
/-- a round of the reference's measuring -/
def rh1 (ar : Nat → Int32) (n i : Nat) (h : Nat → Nat) : Nat → Nat := sl_fo (fun p h => sl_u h p (lk_lf ar h p 32 0 (h p))) n i h
theorem lf_32 (hz : gz ar) {h : Nat → Nat} {p m : Nat} : lk_lf ar h p 32 0 m = max m (lf ar h p) := by
  apply Nat.le_antisymm
  · rw [lk_lf_iff]
    refine ⟨Nat.le_max_left _ _, fun q _ hq hb => ?_⟩
    have h28 : q < 28 := by
      rcases Nat.lt_or_ge q 28 with g | g
      · exact g
      · rw [hz.2 p q g (by omega)] at hb; cases hb
    exact Nat.le_trans (lf_le.mp (Nat.le_refl (lf ar h p)) q h28 hb) (Nat.le_max_right _ _)
  · have h1 := (lk_lf_iff (ar := ar) (nu := h) (k := p) 32 0 m (lk_lf ar h p 32 0 m)).mp (Nat.le_refl _)
    rw [Nat.max_le]
    refine ⟨h1.1, ?_⟩
    rw [lf_le]
    exact fun q hq hb => h1.2 q (Nat.zero_le q) (by omega) hb
theorem rh1_inv (hz : gz ar) (hc : ∀ p, p < 28 → sl_bt (lk_wa 28 0 ar p) p = false) {k : Nat} (n : Nat) : ∀ (i : Nat) (h : Nat → Nat), i + n = 32 → (∀ p, p < i → p < 28 → lw ar (k + 1) p ≤ h p) → (∀ p, p < 28 → lw ar k p ≤ h p ∧ h p ≤ lw ar 27 p) → (∀ p, 28 ≤ p → h p = 0) → (∀ p, p < 28 → lw ar (k + 1) p ≤ rh1 ar n i h p ∧ rh1 ar n i h p ≤ lw ar 27 p) ∧ ∀ p, 28 ≤ p → rh1 ar n i h p = 0 := by
  induction n with
  | zero => intro i h hi h1 h2 h3; exact ⟨fun p hp => ⟨h1 p (by omega) hp, (h2 p hp).2⟩, h3⟩
  | succ n ih =>
    intro i h hi h1 h2 h3
    have e : rh1 ar (n + 1) i h = rh1 ar n (i + 1) (sl_u h i (max (h i) (lf ar h i))) := by
      show rh1 ar n (i + 1) (sl_u h i (lk_lf ar h i 32 0 (h i))) = _
      rw [lf_32 hz]
    rw [e]
    have up : ∀ p, p < 28 → lw ar (k + 1) p ≤ max (h p) (lf ar h p) := by
      intro p hp
      rw [lw_s]
      exact Nat.le_trans (lf_mono (fun q hq => (h2 q hq).1)) (Nat.le_max_right _ _)
    have dn : ∀ p, p < 28 → max (h p) (lf ar h p) ≤ lw ar 27 p := by
      intro p hp
      rw [Nat.max_le]
      refine ⟨(h2 p hp).2, ?_⟩
      rw [← lw_fix hc hp]
      exact lf_mono (fun q hq => (h2 q hq).2)
    refine ih (i + 1) _ (by omega) (fun p hp h28 => ?_) (fun p hp => ?_) (fun p hp => ?_)
    · by_cases g : p = i
      · subst g; rw [sl_u_eq]; exact up p h28
      · rw [sl_u_ne g]; exact h1 p (by omega) h28
    · by_cases g : p = i
      · subst g
        rw [sl_u_eq]
        exact ⟨Nat.le_trans (lw_le k p) (up p hp), dn p hp⟩
      · rw [sl_u_ne g]; exact h2 p hp
    · by_cases g : p = i
      · subst g
        rw [sl_u_eq, h3 p hp, Nat.max_eq_right (Nat.zero_le _)]
        apply Nat.le_antisymm _ (Nat.zero_le _)
        rw [lf_le]
        intro q _ hb
        rw [hz.1 p hp, sl_bt_0] at hb
        cases hb
      · rw [sl_u_ne g]; exact h3 p hp
end RGK
