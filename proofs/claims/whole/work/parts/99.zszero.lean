/-! nothing beyond the 28 places of the ladders -/
theorem fo_inv {α : Type} {P : α → Prop} {f : Nat → α → α} (n : Nat) : ∀ (i : Nat) (x : α), (∀ j y, i ≤ j → j < i + n → P y → P (f j y)) → P x → P (sl_fo f n i x) := by
  induction n with
  | zero => intro i x _ h; exact h
  | succ n ih => intro i x hf h; exact ih (i + 1) _ (fun j y h1 h2 hy => hf j y (by omega) (by omega) hy) (hf i x (Nat.le_refl _) (by omega) h)
theorem lk_K_z {s : Nat → Int32} {e : Nat} : ∀ p, 28 ≤ p → lk_K s e p = 0 := by
  refine fo_inv (P := fun f : Nat → Nat => ∀ p, 28 ≤ p → f p = 0) (e + 1) 0 _ (fun x f _ _ h => ?_) (fun p hp => by rw [if_neg (by omega)])
  refine fo_inv (P := fun f : Nat → Nat => ∀ p, 28 ≤ p → f p = 0) (e + 1) 0 _ (fun y f _ _ h => ?_) h
  unfold lk_t1
  cases decide (s (12 * x + y) &&& nI 2 = 0) with
  | true => exact h
  | false =>
    intro p hp
    show lk_tie f (f x) (f (16 + y)) 28 p = 0
    unfold lk_tie
    rw [if_neg (by omega)]
    exact h p hp
theorem lk_w1_z {by_ n i : Nat} {r : Nat → Int32} (hi : i + n ≤ 28) (h : ∀ p, 28 ≤ p → r p = nI 0) : ∀ p, 28 ≤ p → lk_w1 by_ n i r p = nI 0 := by
  unfold lk_w1
  refine fo_inv (P := fun f : Nat → Int32 => ∀ p, 28 ≤ p → f p = nI 0) n i r (fun y f h3 h4 h => ?_) h
  cases sl_bt (f y) by_ with
  | false => exact h
  | true => intro p hp; show sl_u f _ _ p = nI 0; rw [sl_u_ne (by omega)]; exact h p hp
theorem lk_wa_z {n i : Nat} {r : Nat → Int32} (h : ∀ p, 28 ≤ p → r p = nI 0) : ∀ p, 28 ≤ p → lk_wa n i r p = nI 0 := by
  unfold lk_wa
  exact fo_inv (P := fun f : Nat → Int32 => ∀ p, 28 ≤ p → f p = nI 0) n i r (fun y f h3 h4 h => lk_w1_z (by omega) h) h
theorem lk_R_z {s : Nat → Int32} {e : Nat} (he : e ≤ 11) : ∀ p, 28 ≤ p → lk_R s e p = nI 0 := by
  unfold lk_R
  exact lk_wa_z (lk_A_z he)
theorem lk_m1_z {ar : Nat → Int32} (n : Nat) : ∀ (i : Nat) (nu : Nat → Nat) (gr : Bool), i + n ≤ 28 → (∀ p, 28 ≤ p → nu p = 0) → ∀ p, 28 ≤ p → (lk_m1 ar n i nu gr).1 p = 0 := by
  induction n with
  | zero => intro i nu gr _ h; exact h
  | succ n ih =>
    intro i nu gr hi h
    rw [lk_m1]
    exact ih (i + 1) _ _ (by omega) (fun p hp => by rw [sl_u_ne (by omega)]; exact h p hp)
theorem lk_mo_z {ar : Nat → Int32} (n : Nat) : ∀ (nu : Nat → Nat) (gr : Bool), (∀ p, 28 ≤ p → nu p = 0) → ∀ p, 28 ≤ p → lk_mo ar n nu gr p = 0 := by
  induction n with
  | zero => intro nu gr h; exact h
  | succ n ih =>
    intro nu gr h
    rw [lk_mo]
    cases gr with
    | false => exact h
    | true => exact ih _ _ (lk_m1_z 28 0 nu false (by omega) h)
theorem lk_N_z {s : Nat → Int32} {e rn : Nat} : ∀ p, 28 ≤ p → lk_N s e rn p = 0 := by
  unfold lk_N
  cases decide (rn = 0) with
  | false => exact fun _ _ => rfl
  | true => exact lk_mo_z 28 _ _ (fun _ _ => rfl)
theorem lk_fr_z {ar re : Nat → Int32} (n : Nat) : ∀ (i : Nat) (q : Nat × (Nat → Nat) × (Nat → Nat)), i + n ≤ 28 → (∀ p, 28 ≤ p → q.2.2 p = 0) → ∀ p, 28 ≤ p → (lk_fr ar re n i q).2.2 p = 0 := by
  induction n with
  | zero => intro i q _ h; exact h
  | succ n ih =>
    intro i q hi h
    rw [lk_fr]
    cases decide (q.1 = 0) with
    | false => exact h
    | true =>
      refine ih (i + 1) _ (by omega) ?_
      cases sl_bt (re i) i with
      | false => exact h
      | true =>
        have hb := lk_bk_z ar (s := i) (by omega)
        generalize lk_bk ar i = bb at *
        generalize lk_rl ar i = r1
        generalize lk_wk ar bb r1 r1 0 (some i) q.2.1 = r2
        exact hb
set_option maxRecDepth 100000 in
theorem lk_F_z {s : Nat → Int32} {e : Nat} {rk ba : Nat → Nat} (h : ∀ p, 28 ≤ p → ba p = 0) : ∀ p, 28 ≤ p → (lk_F s e rk ba).2.2 p = 0 := by
  have z := fun ar re => lk_fr_z (ar := ar) (re := re) 28 0 (0, rk, ba) (by omega) h
  unfold lk_F
  generalize lk_A s e = A
  generalize lk_R s e = B
  exact z A B
