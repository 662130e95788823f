/-! what the relations keep: sums of 1, 2, 4; nothing beyond the end; the end's row below, her column above -/
def rlK (e : Nat) (s : Nat → Int32) : Prop := (∀ i, ∃ k, k < 8 ∧ s i = nI k) ∧ (∀ i, s i ≠ nI 0 → ∃ x y, x ≤ e ∧ y ≤ e ∧ i = 12 * x + y) ∧ (∀ y, y < 12 → s (12 * e + y) = nI 0 ∨ s (12 * e + y) = nI 1) ∧ (∀ x, x < 12 → s (12 * x + e) = nI 0 ∨ s (12 * x + e) = nI 4)
theorem or_8 : ∀ k, k < 8 → ∀ r, r < 8 → ∃ j, j < 8 ∧ nI k ||| nI r = nI j := by decide +kernel
theorem rlK_add {e : Nat} {s : Nat → Int32} (he : e ≤ 11) (h : rlK e s) {x y r : Nat} (hx : x ≤ e) (hy : y ≤ e) (hr : r < 8) (h1 : x = e → y < e ∧ r = 1) (h2 : y = e → x < e ∧ r = 4) : rlK e (rl_add e s x y r) := by
  obtain ⟨a1, a2, a3, a4⟩ := h
  unfold rl_add
  rw [if_pos ⟨hx, hy⟩]
  refine ⟨fun i => ?_, fun i hi => ?_, fun z hz => ?_, fun z hz => ?_⟩
  · by_cases q : i = 12 * x + y
    · rw [q, sl_u_eq]
      obtain ⟨k, hk, hs⟩ := a1 (12 * x + y)
      rw [hs]
      exact or_8 k hk r hr
    · rw [sl_u_ne q]; exact a1 i
  · by_cases q : i = 12 * x + y
    · exact ⟨x, y, hx, hy, q⟩
    · rw [sl_u_ne q] at hi; exact a2 i hi
  · by_cases q : 12 * e + z = 12 * x + y
    · have e1 : x = e := by omega
      have := h1 e1
      rw [q, sl_u_eq, ← q, this.2]
      rcases a3 z hz with c | c <;> rw [c] <;> right <;> decide
    · rw [sl_u_ne q]; exact a3 z hz
  · by_cases q : 12 * z + e = 12 * x + y
    · have e1 : y = e := by omega
      have := h2 e1
      rw [q, sl_u_eq, ← q, this.2]
      rcases a4 z hz with c | c <;> rw [c] <;> right <;> decide
    · rw [sl_u_ne q]; exact a4 z hz
theorem rlK_bel {e : Nat} (he : e ≤ 11) {x : Nat} (hx : x ≤ e) (b : Int32) : ∀ (n i : Nat) (s : Nat → Int32), i + n ≤ e → rlK e s → rlK e (rl_bel e x b n i s) := by
  intro n
  induction n with
  | zero => intro i s _ h; exact h
  | succ n ih =>
    intro i s hi h
    have e1 : rl_bel e x b (n + 1) i s = rl_bel e x b n (i + 1) (cond (sl_bt b i) (rl_add e s x i 1) s) := rfl
    rw [e1]
    refine ih (i + 1) _ (by omega) ?_
    cases sl_bt b i with
    | false => exact h
    | true => exact rlK_add he h hx (by omega) (by omega) (fun _ => ⟨by omega, rfl⟩) (fun q => by omega)
theorem rlK_abv {e : Nat} (he : e ≤ 11) {y : Nat} (hy : y ≤ e) (b : Int32) : ∀ (n i : Nat) (s : Nat → Int32), i + n ≤ e → rlK e s → rlK e (rl_abv e b y n i s) := by
  intro n
  induction n with
  | zero => intro i s _ h; exact h
  | succ n ih =>
    intro i s hi h
    have e1 : rl_abv e b y (n + 1) i s = rl_abv e b y n (i + 1) (cond (sl_bt b i) (rl_add e s i y 4) s) := rfl
    rw [e1]
    refine ih (i + 1) _ (by omega) ?_
    cases sl_bt b i with
    | false => exact h
    | true => exact rlK_add he h (by omega) hy (by omega) (fun q => by omega) (fun _ => ⟨by omega, rfl⟩)
theorem rlK_r1 {g : sg_T} (hok : sg_ok g) (hs : sg_str g) (l t : Nat → Int32) {r : Nat} (hr : r < sg_rules g) : ∀ (i : Nat) (s : Nat → Int32), i + 1 < sg_lens g r → rlK (sg_terms g) s → rlK (sg_terms g) (rl_r1 g (sg_terms g) l t r i s) := by
  intro i s hi h
  have he : sg_terms g ≤ 11 := hok.2.2.2.1
  have hiv := fun j (hj : j < sg_lens g r) => hs.2.1 r j hr hj
  have hadj := fun j (hj : j + 1 < sg_lens g r) => hs.2.2.1 r j hr hj
  have hnm : ∀ x, sg_nm x = decide (100 ≤ x) := fun x => rfl
  unfold rl_r1
  cases h1 : sg_nm (sg_it g r i) with
  | true =>
    rw [hnm] at h1
    have q1 := of_decide_eq_true h1
    have q2 : sg_it g r (i + 1) < 100 := by
      rcases Nat.lt_or_ge (sg_it g r (i + 1)) 100 with c | c
      · exact c
      · exact absurd ⟨q1, c⟩ (hadj i hi)
    have q3 := (hiv (i + 1) hi).1 q2
    exact rlK_abv he (by omega) _ _ _ _ (by omega) h
  | false =>
    rw [hnm] at h1
    have q1 := of_decide_eq_false h1
    have q1' := (hiv i (by omega)).1 (by omega)
    simp only [cond_false]
    cases h2 : sg_nm (sg_it g r (i + 1)) with
    | true =>
      rw [hnm] at h2
      have q2 := of_decide_eq_true h2
      simp only [cond_true]
      have hb := rlK_bel he (x := sg_it g r i) (by omega) (l (sg_it g r (i + 1) - 100)) (sg_terms g) 0 s (by omega) h
      by_cases h3 : i + 1 < sg_lens g r - 1
      · rw [decide_eq_true h3, cond_true]
        have q3 : sg_it g r (i + 2) < 100 := by
          rcases Nat.lt_or_ge (sg_it g r (i + 2)) 100 with c | c
          · exact c
          · exact absurd ⟨q2, c⟩ (hadj (i + 1) (by omega))
        have q4 := (hiv (i + 2) (by omega)).1 q3
        exact rlK_add he hb (by omega) (by omega) (by omega) (fun q => by omega) (fun q => by omega)
      · rw [decide_eq_false h3, cond_false]
        exact hb
    | false =>
      rw [hnm] at h2
      have q2 := of_decide_eq_false h2
      have q2' := (hiv (i + 1) hi).1 (by omega)
      exact rlK_add he h (by omega) (by omega) (by omega) (fun q => by omega) (fun q => by omega)
theorem rlK_rr {g : sg_T} (hok : sg_ok g) (hs : sg_str g) (l t : Nat → Int32) {r : Nat} (hr : r < sg_rules g) : ∀ (n i : Nat) (s : Nat → Int32), i + n < sg_lens g r → rlK (sg_terms g) s → rlK (sg_terms g) (rl_rr g (sg_terms g) l t r n i s) := by
  intro n
  induction n with
  | zero => intro i s _ h; exact h
  | succ n ih =>
    intro i s hi h
    have e1 : rl_rr g (sg_terms g) l t r (n + 1) i s = rl_rr g (sg_terms g) l t r n (i + 1) (rl_r1 g (sg_terms g) l t r i s) := rfl
    rw [e1]
    exact ih (i + 1) _ (by omega) (rlK_r1 hok hs l t hr i s (by omega) h)
theorem rlK_S1 {g : sg_T} (hok : sg_ok g) (hs : sg_str g) : ∀ (n i : Nat) (s : Nat → Int32), i + n ≤ sg_rules g → rlK (sg_terms g) s → rlK (sg_terms g) (rl_S1 g n i s) := by
  intro n
  induction n with
  | zero => intro i s _ h; exact h
  | succ n ih =>
    intro i s hi h
    have e1 : rl_S1 g (n + 1) i s = rl_S1 g n (i + 1) (cond (sg_put g i) s (rl_rr g (sg_terms g) (rl_LT g).1 (rl_LT g).2 i (sg_lens g i - 1) 0 s)) := rfl
    rw [e1]
    refine ih (i + 1) _ (by omega) ?_
    have h1 := (hs.1 i (by omega)).2
    cases sg_put g i with
    | true => exact h
    | false => exact rlK_rr hok hs _ _ (by omega) _ 0 s (by omega) h
theorem rlK_S {g : sg_T} (hok : sg_ok g) (hs : sg_str g) : rlK (sg_terms g) (rl_S g) := by
  have he : sg_terms g ≤ 11 := hok.2.2.2.1
  unfold rl_S
  refine rlK_abv he (Nat.le_refl _) _ _ _ _ (by omega) (rlK_bel he (Nat.le_refl _) _ _ _ _ (by omega) (rlK_S1 hok hs _ _ _ (by omega) ?_))
  exact ⟨fun i => ⟨0, by omega, rfl⟩, fun i q => absurd rfl q, fun _ _ => Or.inl rfl, fun _ _ => Or.inl rfl⟩
theorem rl_z_S {g : sg_T} (hok : sg_ok g) (hs : sg_str g) : rl_z (sg_terms g) (rl_S g) := by
  obtain ⟨a1, a2, a3, a4⟩ := rlK_S hok hs
  refine ⟨fun x y hx hy hq => ?_, a1⟩
  by_cases c : rl_S g (12 * x + y) = nI 0
  · exact c
  · obtain ⟨x', y', h1, h2, h3⟩ := a2 _ c
    have he : sg_terms g ≤ 11 := hok.2.2.2.1
    omega
theorem rl_S_144 {g : sg_T} (hok : sg_ok g) (hs : sg_str g) : ∀ i, 144 ≤ i → rl_S g i = nI 0 := by
  obtain ⟨a1, a2, a3, a4⟩ := rlK_S hok hs
  intro i hi
  by_cases c : rl_S g i = nI 0
  · exact c
  · obtain ⟨x', y', h1, h2, h3⟩ := a2 _ c
    have he : sg_terms g ≤ 11 := hok.2.2.2.1
    omega
theorem rl_LT_6 {g : sg_T} (hok : sg_ok g) : ∀ i, 6 ≤ i → (rl_LT g).1 i = nI 0 ∧ (rl_LT g).2 i = nI 0 := by
  have hgr : ∀ (n i : Nat) (p : (Nat → Int32) × (Nat → Int32)), i + n ≤ sg_rules g → (∀ j, 6 ≤ j → p.1 j = nI 0 ∧ p.2 j = nI 0) → ∀ j, 6 ≤ j → (rl_gr g n i p).1 j = nI 0 ∧ (rl_gr g n i p).2 j = nI 0 := by
    intro n
    induction n with
    | zero => intro i p _ h; exact h
    | succ n ih =>
      intro i p hi h
      have e1 : rl_gr g (n + 1) i p = rl_gr g n (i + 1) (rl_st g i p) := rfl
      rw [e1]
      refine ih (i + 1) _ (by omega) (fun j hj => ?_)
      have hr12 : sg_rules g ≤ 12 := hok.2.1
      have hh := (hok.2.2.2.2.2.1 i (by omega)).1
      unfold rl_st
      cases (!(sg_put g i) && decide (0 < sg_lens g i)) with
      | false => exact h j hj
      | true =>
        simp only [cond_true]
        rw [sl_u_ne (by omega), sl_u_ne (by omega)]
        exact h j hj
  have hall : ∀ (n i : Nat) (p : (Nat → Int32) × (Nat → Int32)), (∀ j, 6 ≤ j → p.1 j = nI 0 ∧ p.2 j = nI 0) → ∀ j, 6 ≤ j → (sl_fo (fun _ p => rl_gr g (sg_rules g) 0 p) n i p).1 j = nI 0 ∧ (sl_fo (fun _ p => rl_gr g (sg_rules g) 0 p) n i p).2 j = nI 0 := by
    intro n
    induction n with
    | zero => intro i p h; exact h
    | succ n ih =>
      intro i p h
      exact ih (i + 1) _ (hgr (sg_rules g) 0 p (by omega) h)
  exact hall _ _ _ (fun j _ => ⟨rfl, rfl⟩)
theorem rf_z0_laid {g : sg_T} {v : Nat → Int32} {a : Nat → Nat → Int32} (hok : sg_ok g) (hs : sg_str g) (h : rf_laid g v a) : rf_z0 a := by
  obtain ⟨h1, h2, h3, h4⟩ := h
  unfold rf_z0
  rw [h1, h2, h3]
  exact ⟨rl_LT_6 hok, rl_S_144 hok hs⟩
