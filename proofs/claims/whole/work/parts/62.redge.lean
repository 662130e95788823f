/-! the reference: edges and relations laid -/
def sg_str (g : sg_T) : Prop :=
  (∀ r, r < sg_rules g → sg_heads g r < sg_names g ∧ 1 ≤ sg_lens g r) ∧
  (∀ r i, r < sg_rules g → i < sg_lens g r → (sg_it g r i < 100 → sg_it g r i < sg_terms g) ∧ (100 ≤ sg_it g r i → sg_it g r i - 100 < sg_names g)) ∧
  (∀ r i, r < sg_rules g → i + 1 < sg_lens g r → ¬ (100 ≤ sg_it g r i ∧ 100 ≤ sg_it g r (i + 1))) ∧
  (∀ r, r < sg_rules g → (sg_deeds g r = 8 → sg_lens g r = 1 ∧ sg_it g r 0 < 100 ∧ sg_signs g (sg_it g r 0) = 0) ∧ (sg_deeds g r ≠ 8 → sl_ct (fun i => sg_nm (sg_it g r i)) (sg_lens g r) 0 = if sg_deeds g r ≤ 3 then 2 else 1)) ∧
  (∀ t t', t < sg_terms g → t' < sg_terms g → sg_signs g t = sg_signs g t' → t = t')
def rl_sX (g : sg_T) (o i : Nat → Nat) (r : Nat) (f : Nat → Int32) : Nat → Int32 := cond (!(sg_put g r) && decide (0 < sg_lens g r)) (sl_u f (sg_heads g r) (f (sg_heads g r) ||| rl_eo g r (o r) (i r) f)) f
abbrev rl_o1 (_ : sg_T) : Nat → Nat := fun _ => 0
abbrev rl_i1 (g : sg_T) : Nat → Nat := fun r => min 1 (sg_lens g r - 1)
abbrev rl_o2 (g : sg_T) : Nat → Nat := fun r => sg_lens g r - 1
abbrev rl_i2 (g : sg_T) : Nat → Nat := fun r => sg_lens g r - 1 - 1
theorem rl_st_X (g : sg_T) (r : Nat) (p : (Nat → Int32) × (Nat → Int32)) : rl_st g r p = (rl_sX g (rl_o1 g) (rl_i1 g) r p.1, rl_sX g (rl_o2 g) (rl_i2 g) r p.2) := by
  unfold rl_st rl_sX
  cases (!(sg_put g r) && decide (0 < sg_lens g r)) <;> rfl
theorem rl_gr_X (g : sg_T) (n : Nat) : ∀ (i : Nat) (p : (Nat → Int32) × (Nat → Int32)), rl_gr g n i p = (sl_fo (rl_sX g (rl_o1 g) (rl_i1 g)) n i p.1, sl_fo (rl_sX g (rl_o2 g) (rl_i2 g)) n i p.2) := by
  induction n with
  | zero => intro i p; rfl
  | succ n ih =>
    intro i p
    show rl_gr g n (i + 1) (rl_st g i p) = _
    rw [ih, rl_st_X]
    rfl
abbrev rl_GL (g : sg_T) : (Nat → Int32) → (Nat → Int32) := fun f => sl_fo (rl_sX g (rl_o1 g) (rl_i1 g)) (sg_rules g) 0 f
abbrev rl_GT (g : sg_T) : (Nat → Int32) → (Nat → Int32) := fun f => sl_fo (rl_sX g (rl_o2 g) (rl_i2 g)) (sg_rules g) 0 f
theorem rl_LT_it (g : sg_T) : rl_LT g = (sl_it (rl_GL g) (sg_names g + 1) (fun _ => nI 0), sl_it (rl_GT g) (sg_names g + 1) (fun _ => nI 0)) := by
  have h : ∀ n i p, sl_fo (fun _ p => rl_gr g (sg_rules g) 0 p) n i p = (sl_it (rl_GL g) n p.1, sl_it (rl_GT g) n p.2) := by
    intro n
    induction n with
    | zero => intro i p; rfl
    | succ n ih =>
      intro i p
      show sl_fo _ n (i + 1) (rl_gr g (sg_rules g) 0 p) = _
      rw [ih, rl_gr_X]
      rfl
  exact h _ _ _
/-- one bit of a step -/
def bX (g : sg_T) (o i : Nat → Nat) (k r : Nat) (S : Nat → Bool) : Nat → Bool := cond (!(sg_put g r) && decide (0 < sg_lens g r)) (sl_u S (sg_heads g r) (S (sg_heads g r) || cond (sg_nm (sg_it g r (o r))) (cond (sg_nm (sg_it g r (i r))) (S (sg_it g r (o r) - 100)) (S (sg_it g r (o r) - 100) || sl_bt (nI 1 <<< (nI (sg_it g r (i r)) &&& 31)) k)) (sl_bt (nI 1 <<< (nI (sg_it g r (o r)) &&& 31)) k))) S
theorem bX_eq (g : sg_T) (o i : Nat → Nat) {k : Nat} (hk : k < 32) (r : Nat) (f : Nat → Int32) : (fun n => sl_bt (rl_sX g o i r f n) k) = bX g o i k r (fun n => sl_bt (f n) k) := by
  unfold rl_sX bX
  cases (!(sg_put g r) && decide (0 < sg_lens g r)) with
  | false => rfl
  | true =>
    funext n
    simp only [cond_true, sl_u]
    by_cases h : n = sg_heads g r
    · rw [if_pos h, if_pos h, sl_bt_or _ _ k hk]
      congr 1
      unfold rl_eo
      cases sg_nm (sg_it g r (o r)) with
      | false => rfl
      | true => cases sg_nm (sg_it g r (i r)) with
        | true => rfl
        | false => exact sl_bt_or _ _ k hk
    · rw [if_neg h, if_neg h]
theorem bX_fo (g : sg_T) (o i : Nat → Nat) {k : Nat} (hk : k < 32) (n : Nat) : ∀ (j : Nat) (f : Nat → Int32), (fun m => sl_bt (sl_fo (rl_sX g o i) n j f m) k) = sl_fo (bX g o i k) n j (fun m => sl_bt (f m) k) := by
  induction n with
  | zero => intro j f; rfl
  | succ n ih =>
    intro j f
    show (fun m => sl_bt (sl_fo (rl_sX g o i) n (j + 1) (rl_sX g o i j f) m) k) = sl_fo (bX g o i k) n (j + 1) (bX g o i k j (fun m => sl_bt (f m) k))
    rw [ih, bX_eq g o i hk]
theorem bX_it (g : sg_T) (o i : Nat → Nat) {k : Nat} (hk : k < 32) (R n : Nat) : ∀ (f : Nat → Int32), (fun m => sl_bt (sl_it (fun f => sl_fo (rl_sX g o i) R 0 f) n f m) k) = sl_it (fun S => sl_fo (bX g o i k) R 0 S) n (fun m => sl_bt (f m) k) := by
  induction n with
  | zero => intro f; rfl
  | succ n ih =>
    intro f
    show (fun m => sl_bt (sl_it _ n (sl_fo (rl_sX g o i) R 0 f) m) k) = sl_it _ n (sl_fo (bX g o i k) R 0 (fun m => sl_bt (f m) k))
    rw [ih, bX_fo g o i hk]
theorem bX_up (g : sg_T) (o i : Nat → Nat) (k n : Nat) : ∀ (j : Nat) (S : Nat → Bool) (m : Nat), S m = true → sl_fo (bX g o i k) n j S m = true := by
  induction n with
  | zero => intro j S m h; exact h
  | succ n ih =>
    intro j S m h
    refine ih (j + 1) _ m ?_
    unfold bX
    cases (!(sg_put g j) && decide (0 < sg_lens g j)) with
    | false => exact h
    | true =>
      simp only [cond_true, sl_u]
      by_cases hm : m = sg_heads g j
      · rw [if_pos hm, ← hm, h]; rfl
      · rw [if_neg hm]; exact h
theorem bX_hi (g : sg_T) (o i : Nat → Nat) (k N n : Nat) : ∀ (j : Nat) (S : Nat → Bool) (m : Nat), (∀ r, j ≤ r → r < j + n → sg_heads g r < N) → N ≤ m → sl_fo (bX g o i k) n j S m = S m := by
  induction n with
  | zero => intro j S m _ _; rfl
  | succ n ih =>
    intro j S m hN hm
    show sl_fo (bX g o i k) n (j + 1) (bX g o i k j S) m = S m
    rw [ih (j + 1) _ m (fun r h1 h2 => hN r (by omega) (by omega)) hm]
    have := hN j (Nat.le_refl j) (by omega)
    unfold bX
    cases (!(sg_put g j) && decide (0 < sg_lens g j)) with
    | false => rfl
    | true =>
      simp only [cond_true, sl_u]
      rw [if_neg (by omega)]
/-- after as many rounds as names nothing comes any more -/
theorem rl_set_X {g : sg_T} (hs : sg_str g) (o i : Nat → Nat) (f : Nat → Int32) : sl_fo (rl_sX g o i) (sg_rules g) 0 (sl_it (fun f => sl_fo (rl_sX g o i) (sg_rules g) 0 f) (sg_names g) f) = sl_it (fun f => sl_fo (rl_sX g o i) (sg_rules g) 0 f) (sg_names g) f := by
  funext n
  apply sl_bt_ext
  intro k hk
  have h1 := congrFun (bX_fo g o i hk (sg_rules g) 0 (sl_it (fun f => sl_fo (rl_sX g o i) (sg_rules g) 0 f) (sg_names g) f)) n
  have h2 := bX_it g o i hk (sg_rules g) (sg_names g) f
  have h3 := sl_set (F := fun S => sl_fo (bX g o i k) (sg_rules g) 0 S) (N := sg_names g) (fun S m h => bX_up g o i k _ 0 S m h) (fun S m h => bX_hi g o i k (sg_names g) _ 0 S m (fun r _ h2 => (hs.1 r (by omega)).1) h) (fun m => sl_bt (f m) k)
  rw [← h2] at h3
  exact h1.trans (congrFun h3 n)
theorem rl_L_it {g : sg_T} (hs : sg_str g) (o i : Nat → Nat) (f : Nat → Int32) : sl_it (fun f => sl_fo (rl_sX g o i) (sg_rules g) 0 f) (sg_names g + 1) f = sl_it (fun f => sl_fo (rl_sX g o i) (sg_rules g) 0 f) (sg_names g) f := by
  rw [sl_it_s]
  exact rl_set_X hs o i f
