/-! the reference: points laid -/
theorem lk_a_b {s : Nat → Int32} {kn : Nat → Nat} (hk : ∀ p, p < 28 → kn p < 28) {x y : Nat} (hx : x ≤ 11) (hy : y ≤ 11) {a : Nat → Int32} (ha : ∀ p q, 28 ≤ q → q < 32 → sl_bt (a p) q = false) : ∀ p q, 28 ≤ q → q < 32 → sl_bt (lk_a4 s kn x y (lk_a1 s kn x y a) p) q = false := by
  have st : ∀ (a : Nat → Int32) (g f : Nat), f < 28 → (∀ p q, 28 ≤ q → q < 32 → sl_bt (a p) q = false) → ∀ p q, 28 ≤ q → q < 32 → sl_bt (sl_u a g (a g ||| nI 1 <<< (nI f &&& 31)) p) q = false := by
    intro a g f hf ha p q h1 h2
    by_cases e : p = g
    · rw [e, sl_u_eq, sl_bt_or _ _ q h2, ha g q h1 h2, sl_bt_1 f (by omega) q h2, decide_eq_false (by omega)]
      rfl
    · rw [sl_u_ne e]
      exact ha p q h1 h2
  have k1 := hk x (by omega)
  have k2 := hk (16 + y) (by omega)
  have h1 : ∀ p q, 28 ≤ q → q < 32 → sl_bt (lk_a1 s kn x y a p) q = false := by
    unfold lk_a1
    cases decide (s (12 * x + y) &&& nI 1 = 0) with
    | true => exact ha
    | false => exact st a _ _ k1 ha
  unfold lk_a4
  cases decide (s (12 * x + y) &&& nI 4 = 0) with
  | true => exact h1
  | false => exact st _ _ _ k2 h1
theorem lk_aa_b {s : Nat → Int32} {kn : Nat → Nat} (hk : ∀ p, p < 28 → kn p < 28) {x : Nat} (hx : x ≤ 11) (n : Nat) : ∀ (i : Nat) (a : Nat → Int32), i + n ≤ 12 → (∀ p q, 28 ≤ q → q < 32 → sl_bt (a p) q = false) → ∀ p q, 28 ≤ q → q < 32 → sl_bt (lk_aa s kn x n i a p) q = false := by
  induction n with
  | zero => intro i a _ h; exact h
  | succ n ih => intro i a hi h; exact ih (i + 1) _ (by omega) (lk_a_b hk hx (by omega) h)
theorem lk_ar_b {s : Nat → Int32} {kn : Nat → Nat} (hk : ∀ p, p < 28 → kn p < 28) {e : Nat} (he : e ≤ 11) (n : Nat) : ∀ (i : Nat) (a : Nat → Int32), i + n ≤ 12 → (∀ p q, 28 ≤ q → q < 32 → sl_bt (a p) q = false) → ∀ p q, 28 ≤ q → q < 32 → sl_bt (lk_ar s kn e n i a p) q = false := by
  induction n with
  | zero => intro i a _ h; exact h
  | succ n ih => intro i a hi h; exact ih (i + 1) _ (by omega) (lk_aa_b hk (by omega) (e + 1) 0 a (by omega) h)
theorem lk_A_gz {s : Nat → Int32} {e : Nat} (he : e ≤ 11) : gz (lk_A s e) := ⟨lk_A_z he, lk_ar_b (lk_K_lt he) he (e + 1) 0 _ (by omega) (fun p q _ _ => sl_bt_0 q)⟩
/-- a row while it grows -/
def wrw (B : Nat → Nat → Bool) (m p n : Nat) : Nat → Nat → Bool := fun p' q' => if p' = p ∧ q' < n then B p q' || (B p m && B m q') else B p' q'
theorem wrw_pm (B : Nat → Nat → Bool) (m p n : Nat) : wrw B m p n p m = B p m := by
  unfold wrw
  split
  · cases B p m <;> simp
  · rfl
theorem wrw_mi (B : Nat → Nat → Bool) (m p i : Nat) : wrw B m p i m i = B m i := by
  unfold wrw
  rw [if_neg (by omega)]
theorem wrw_set {B : Nat → Nat → Bool} {m p i : Nat} (h1 : B p m = true) (h2 : B m i = true) : (fun p' q' => if p' = p ∧ q' = i then true else wrw B m p i p' q') = wrw B m p (i + 1) := by
  funext p' q'
  unfold wrw
  by_cases h : p' = p ∧ q' = i
  · obtain ⟨e1, e2⟩ := h
    subst e1 e2
    rw [if_pos ⟨rfl, rfl⟩, if_pos ⟨rfl, by omega⟩, h1, h2]
    simp
  · rw [if_neg h]
    by_cases g : p' = p ∧ q' < i
    · rw [if_pos g, if_pos ⟨g.1, by omega⟩]
    · rw [if_neg g, if_neg (by omega)]
theorem wrw_skip {B : Nat → Nat → Bool} {m p i : Nat} (h : (B p m && B m i) = false) : wrw B m p i = wrw B m p (i + 1) := by
  funext p' q'
  unfold wrw
  by_cases g : p' = p ∧ q' < i
  · rw [if_pos g, if_pos ⟨g.1, by omega⟩]
  · rw [if_neg g]
    by_cases g2 : p' = p ∧ q' < i + 1
    · rw [if_pos g2]
      have e : q' = i := by omega
      rw [g2.1, e, h, Bool.or_false]
    · rw [if_neg g2]
theorem wrw_0 (B : Nat → Nat → Bool) (m p : Nat) : wrw B m p 0 = B := by
  funext p' q'
  unfold wrw
  rw [if_neg (by omega)]
theorem wrw_32 {re f0 : Nat → Int32} {m p : Nat} : mb (wrw (fun p q => sl_bt (re p) q) m p 32) f0 = mx (cond (sl_bt (re p) m) (sl_u re p (re p ||| re m)) re) f0 := by
  refine mb_ext (fun p' q' hp hq => ?_)
  unfold wrw
  cases hb : sl_bt (re p) m with
  | false =>
    by_cases h : p' = p ∧ q' < 32
    · rw [if_pos h, h.1]; simp [hb]
    · rw [if_neg h]; rfl
  | true =>
    rw [cond_true]
    by_cases h : p' = p
    · subst h
      rw [if_pos ⟨rfl, hq⟩, sl_u_eq, sl_bt_or _ _ q' hq]
      simp [hb]
    · rw [if_neg (fun g => h g.1), sl_u_ne h]
set_option maxRecDepth 100000 in
theorem rf_K_of {s : Nat → Int32} {e : Nat} (he : e ≤ 11) {v : Nat → Int32} {a : Nat → Nat → Int32} {f0 f3 : Nat → Int32} (hk : a 39 = kx (lk_K s e) f0) (hq : rg_Q (lk_A s e) v a) (hh : v 44 = nI 0 → a 40 = hx (rhN (lk_A s e) 32) f3) (rk ba : Nat → Nat) : rf_K (lk_F s e rk ba).1 (lk_F s e rk ba).2.1 (lk_K s e) (lk_N s e (lk_F s e rk ba).1) v a := by
  have hz := lk_A_gz (s := s) he
  have hkl := lk_K_lt (s := s) he
  unfold rg_Q at hq
  have hkn : ∀ p, p < 28 → a 39 p = nI (lk_K s e p) := fun p hp => by rw [hk]; exact kx_lt hp
  cases hs0 : sl_fn (fun p => sl_bt (lk_wa 28 0 (lk_A s e) p) p) 28 0 with
  | none =>
    rw [hs0] at hq
    have hc : ∀ p, p < 28 → sl_bt (lk_wa 28 0 (lk_A s e) p) p = false := fun p hp => sl_fn_none' 28 0 hs0 p (Nat.zero_le p) (by omega)
    have hF : lk_F s e rk ba = (0, rk, ba) := by
      unfold lk_F lk_R
      exact lk_fr_n 28 0 _ (Or.inr (fun p _ hp => hc p (by omega)))
    have hN : ∀ p, p < 28 → lk_N s e 0 p = lw (lk_A s e) 27 p := by
      intro p hp
      unfold lk_N
      rw [decide_eq_true rfl, cond_true]
      exact lk_N_eq hc hp
    rw [hF]
    refine ⟨hq, hkn, fun i hi => absurd hi (by simp), fun _ p hp => ?_, Nat.zero_le 28, hkl, fun p hp => ?_⟩
    · rw [hh hq, hx_at (by omega), rhN_eq hz hc hp, hN p hp]
    · rw [hN p hp]; have := lw_27 (ar := lk_A s e) 27 p; omega
  | some p0 =>
    rw [hs0] at hq
    obtain ⟨_, hs28, hr⟩ := sl_fn_lt 28 0 p0 hs0
    have hs : p0 < 28 := by omega
    obtain ⟨L, l1, l2, l3, l4⟩ := rl_spec hz hs hr
    have hF : lk_F s e rk ba = (lk_rl (lk_A s e) p0, lk_wk (lk_A s e) (lk_bk (lk_A s e) p0) (lk_rl (lk_A s e) p0) (lk_rl (lk_A s e) p0) 0 (some p0) rk, lk_bk (lk_A s e) p0) := by
      unfold lk_F lk_R
      exact lk_fr_s hr (by omega) 28 0 (0, rk, ba) rfl (Nat.zero_le _) (by omega) (fun p _ hp => sl_fn_first 28 0 p0 hs0 p (Nat.zero_le p) hp)
    rw [hF]
    refine ⟨hq.1, hkn, fun i hi => ?_, fun h0 => ?_, ?_, hkl, fun p hp => ?_⟩
    · obtain ⟨k, k1, k2⟩ := hq.2 i hi
      have := (lk_wk_at hz hs hr (lk_rl (lk_A s e) p0) 0 p0 rk rfl (by omega) i).2 (Nat.zero_le i) hi
      rw [k1] at this
      rw [k2, Option.some.inj this]
    · simp only at h0; omega
    · simp only; omega
    · simp only
      unfold lk_N
      rw [decide_eq_false (by omega), cond_false]
      omega
section RPN
variable {v : Nat → Int32} {w : Int64} {a : Nat → Nat → Int32} {nm : Nat → Int64} {M : sl_M} {s : Nat → Int32} {e : Nat}
set_option maxRecDepth 100000 in
theorem c_X12_laysPoints (he : e ≤ 11) (h16 : v 16 = nI e) (hR : a 38 = s) : sl_T YX12_laysPoints 2 0 0 (fun r M' => r = none ∧ ∃ v' a', M' = rf_S v' w a' nm M ∧ (∀ k, k ∉ [44] → v' k = v k) ∧ (∀ k, k ∉ [39, 40, 41, 42, 43, 45] → a' k = a k) ∧ ∀ rk ba, rf_K (lk_F s e rk ba).1 (lk_F s e rk ba).2.1 (lk_K s e) (lk_N s e (lk_F s e rk ba).1) v' a') [.ref 68] (rf_S v w a nm M) := by
  refine sl_T.of_V (lv := [_, _, _, _]) (by decide) rfl (Nat.le_of_ble_eq_true rfl) ?_
  -- knots, each its own
  have ini : ∀ n k, k + n = 32 → ∀ (z2 z3 : Option Value) (Q : Option Value → sl_M → Prop), sl_V YX12_laysPoints none 2 0 0 Q 21 [some (.ref 68), some (.int (nI 32)), z2, z3] [] (rf_S v w (sl_u a 39 (kx (fun p => if p < 28 then p else 0) (a 39))) nm M) → sl_V YX12_laysPoints none 2 0 0 Q 2 [some (.ref 68), some (.int (nI k)), z2, z3] [] (rf_S v w (sl_u a 39 (ptf (a 39) (kx (fun p => if p < 28 then p else 0) (a 39)) k)) nm M) := by
    intro n
    induction n with
    | zero =>
      intro k hk z2 z3 Q hQ
      have e : k = 32 := by omega
      subst e
      rw [ptf_end (fun p hp => by unfold kx; rw [if_neg (by omega)])]
      refine slv_iload_n eX12_laysPoints_2 rfl ?_
      refine slv_bipush (v := nI 32) eX12_laysPoints_3 (by decide) ?_
      refine slv_icmp_geN eX12_laysPoints_5 (by omega) (by omega) (fun h5 => ?_) (fun h5 => absurd h5 (by omega))
      exact hQ
    | succ n ih =>
      intro k hk z2 z3 Q hQ
      have h0 : kx (fun p => if p < 28 then p else 0) (a 39) k = nI k := by
        rw [kx_at (by omega)]
        unfold kz
        by_cases h : k < 28
        · simp only [if_pos h]
        · simp only [if_neg h]
      refine slv_iload_n eX12_laysPoints_2 rfl ?_
      refine slv_bipush (v := nI 32) eX12_laysPoints_3 (by decide) ?_
      refine slv_icmp_geN eX12_laysPoints_5 (by omega) (by omega) (fun h5 => absurd h5 (by omega)) (fun h5 => ?_)
      refine slv_aload_n eX12_laysPoints_8 rfl ?_
      refine slr_ga (p := 86) eX12_laysPoints_9 fX12_67 rfl ?_
      refine slv_iload_n eX12_laysPoints_12 rfl ?_
      refine slv_iload_n eX12_laysPoints_13 rfl ?_
      refine slr_iastX (k := 39) (p := 86) (len := 32) eX12_laysPoints_14 rfl (by repeat (first | exact sl_u_eq | assumption | apply rf_ne (by decide) | exact rfl)) (by omega) (by decide) (rf_t39 _ _ _ _ _) ?_
      refine slv_iincN (lv' := [_, _, _, _]) eX12_laysPoints_15 rfl (by decide) rfl ?_
      refine slv_goto eX12_laysPoints_18 ?_
      refine slv_mem ?_ (ih (k + 1) (by omega) _ _ Q hQ)
      rw [sl_u_u, ptf_st h0]
  have e1 : rf_S v w a nm M = rf_S v w (sl_u a 39 (ptf (a 39) (kx (fun p => if p < 28 then p else 0) (a 39)) 0)) nm M := by rw [ptf_0, sl_u_self]
  have hl := ini 32 0 (by omega)
  rw [← e1] at hl
  refine slv_iconst (v := nI 0) eX12_laysPoints_0 (by decide) ?_
  refine slv_istore_n (i := 1) (lv' := [_, _, _, _]) eX12_laysPoints_1 rfl (by decide) rfl ?_
  refine hl _ _ _ ?_
  -- tied
  have hA := fun (b : Nat → Nat → Int32) (hb : b 38 = s) (x y : Nat) (hx : x < 12) (hy : y < 12) => (show sl_R YX12_relationOf 0 [.ref 68, .int (nI x), .int (nI y)] (rf_S v w b nm M) (some (.int (s (12 * x + y)))) (rf_S v w b nm M) from by
    have := c_X12_relationOf (v := v) (w := w) (a := b) (nm := nm) (M := M) (x := x) (y := y) (by omega)
    rwa [hb] at this)
  have tie1 : ∀ (m i x : Nat) (kn : Nat → Nat), i + m = e + 1 → x ≤ e → (∀ p, p < 28 → kn p < 28) → ∀ (z3 : Option Value) (Q : Option Value → sl_M → Prop), (∀ z2, sl_V YX12_laysPoints none 2 0 0 Q 67 [some (.ref 68), some (.int (nI x)), z2, z3] [] (rf_S v w (sl_u a 39 (kx (lk_t2 s e x m i kn) (a 39))) nm M)) → sl_V YX12_laysPoints none 2 0 0 Q 33 [some (.ref 68), some (.int (nI x)), some (.int (nI i)), z3] [] (rf_S v w (sl_u a 39 (kx kn (a 39))) nm M) := by
    intro m
    induction m with
    | zero =>
      intro i x kn hi hx hk z3 Q hQ
      refine slv_iload_n eX12_laysPoints_33 rfl ?_
      refine slv_aload_n eX12_laysPoints_34 rfl ?_
      refine slr_gi eX12_laysPoints_35 fX12_324 rfl (by repeat (first | exact sl_u_eq | assumption | apply rf_ne (by decide) | exact rfl)) ?_
      refine slv_icmp_gtN eX12_laysPoints_38 (by omega) (by omega) (fun h38 => ?_) (fun h38 => absurd h38 (by omega))
      exact hQ _
    | succ m ih =>
      intro i x kn hi hx hk z3 Q hQ
      have hQ' : ∀ z2, sl_V YX12_laysPoints none 2 0 0 Q 67 [some (.ref 68), some (.int (nI x)), z2, z3] [] (rf_S v w (sl_u a 39 (kx (lk_t2 s e x m (i + 1) (lk_t1 s x i kn)) (a 39))) nm M) := hQ
      have hJ := c_X12_joins (v := v) (w := w) (nm := nm) (M := M) (a := sl_u a 39 (kx kn (a 39))) (f0 := a 39) sl_u_eq hk (show x < 28 by omega) (show 16 + i < 28 by omega)
      rw [sl_u_u] at hJ
      have ht := lk_t1_lt (s := s) (x := x) (y := i) (by omega) (by omega) hk
      unfold lk_t1 at hQ' ht
      refine slv_iload_n eX12_laysPoints_33 rfl ?_
      refine slv_aload_n eX12_laysPoints_34 rfl ?_
      refine slr_gi eX12_laysPoints_35 fX12_324 rfl (by repeat (first | exact sl_u_eq | assumption | apply rf_ne (by decide) | exact rfl)) ?_
      refine slv_icmp_gtN eX12_laysPoints_38 (by omega) (by omega) (fun h38 => absurd h38 (by omega)) (fun h38 => ?_)
      refine slv_aload_n eX12_laysPoints_41 rfl ?_
      refine slv_iload_n eX12_laysPoints_42 rfl ?_
      refine slv_iload_n eX12_laysPoints_43 rfl ?_
      refine slv_rV (As := [_, _]) eX12_laysPoints_44 lX12_371 rfl rfl rf_68 rfl (hA (sl_u a 39 (kx kn (a 39))) hR x i (by omega) (by omega)) (by decide) (Nat.le_of_ble_eq_true rfl) ?_
      refine slv_iconst (v := nI 2) eX12_laysPoints_47 (by decide) ?_
      refine slv_iand eX12_laysPoints_48 ?_
      refine slv_if_eq eX12_laysPoints_49 (fun h49 => ?_) (fun h49 => ?_)
      · refine slv_iincN (lv' := [_, _, _, _]) eX12_laysPoints_61 rfl (by decide) rfl ?_
        refine slv_goto eX12_laysPoints_64 ?_
        first | (rw [decide_eq_true h49, cond_true] at hQ'; exact ih (i + 1) x kn (by omega) hx hk _ Q hQ') | (rw [decide_eq_false h49, cond_false] at hQ' ht; exact ih (i + 1) x _ (by omega) hx ht _ Q hQ')
      · refine slv_aload_n eX12_laysPoints_52 rfl ?_
        refine slv_iload_n eX12_laysPoints_53 rfl ?_
        refine slv_bipush (v := nI 16) eX12_laysPoints_54 (by decide) ?_
        refine slv_iload_n eX12_laysPoints_56 rfl ?_
        refine slv_iaddN eX12_laysPoints_57 ?_
        refine slv_rV (As := [_, _]) eX12_laysPoints_58 lX12_389 rfl rfl rf_68 rfl hJ (by decide) (Nat.le_of_ble_eq_true rfl) ?_
        refine slv_iincN (lv' := [_, _, _, _]) eX12_laysPoints_61 rfl (by decide) rfl ?_
        refine slv_goto eX12_laysPoints_64 ?_
        first | (rw [decide_eq_true h49, cond_true] at hQ'; exact ih (i + 1) x kn (by omega) hx hk _ Q hQ') | (rw [decide_eq_false h49, cond_false] at hQ' ht; exact ih (i + 1) x _ (by omega) hx ht _ Q hQ')
  have tie2 : ∀ (m i : Nat) (kn : Nat → Nat), i + m = e + 1 → (∀ p, p < 28 → kn p < 28) → ∀ (z2 z3 : Option Value) (Q : Option Value → sl_M → Prop), (∀ z1 z2, sl_V YX12_laysPoints none 2 0 0 Q 73 [some (.ref 68), z1, z2, z3] [] (rf_S v w (sl_u a 39 (kx (lk_kn s e m i kn) (a 39))) nm M)) → sl_V YX12_laysPoints none 2 0 0 Q 23 [some (.ref 68), some (.int (nI i)), z2, z3] [] (rf_S v w (sl_u a 39 (kx kn (a 39))) nm M) := by
    intro m
    induction m with
    | zero =>
      intro i kn hi hk z2 z3 Q hQ
      refine slv_iload_n eX12_laysPoints_23 rfl ?_
      refine slv_aload_n eX12_laysPoints_24 rfl ?_
      refine slr_gi eX12_laysPoints_25 fX12_324 rfl (by repeat (first | exact sl_u_eq | assumption | apply rf_ne (by decide) | exact rfl)) ?_
      refine slv_icmp_gtN eX12_laysPoints_28 (by omega) (by omega) (fun h28 => ?_) (fun h28 => absurd h28 (by omega))
      exact hQ _ _
    | succ m ih =>
      intro i kn hi hk z2 z3 Q hQ
      refine slv_iload_n eX12_laysPoints_23 rfl ?_
      refine slv_aload_n eX12_laysPoints_24 rfl ?_
      refine slr_gi eX12_laysPoints_25 fX12_324 rfl (by repeat (first | exact sl_u_eq | assumption | apply rf_ne (by decide) | exact rfl)) ?_
      refine slv_icmp_gtN eX12_laysPoints_28 (by omega) (by omega) (fun h28 => absurd h28 (by omega)) (fun h28 => ?_)
      refine slv_iconst (v := nI 0) eX12_laysPoints_31 (by decide) ?_
      refine slv_istore_n (i := 2) (lv' := [_, _, _, _]) eX12_laysPoints_32 rfl (by decide) rfl ?_
      refine tie1 (e + 1) 0 i kn (by omega) (by omega) hk _ Q (fun z2 => ?_)
      refine slv_iincN (lv' := [_, _, _, _]) eX12_laysPoints_67 rfl (by decide) rfl ?_
      refine slv_goto eX12_laysPoints_70 ?_
      exact ih (i + 1) _ (by omega) (lk_t2_lt (by omega) (e + 1) 0 kn (by omega) hk) _ _ Q hQ
  refine slv_iconst (v := nI 0) eX12_laysPoints_21 (by decide) ?_
  refine slv_istore_n (i := 1) (lv' := [_, _, _, _]) eX12_laysPoints_22 rfl (by decide) rfl ?_
  refine tie2 (e + 1) 0 _ (by omega) (fun p hp => by rw [if_pos hp]; exact hp) _ _ _ (fun z1 z2 => ?_)
  have hkl := lk_K_lt (s := s) he
  have hK : lk_kn s e (e + 1) 0 (fun p => if p < 28 then p else 0) = lk_K s e := rfl
  rw [hK]
  generalize hKn : lk_K s e = kn at *
  have hb1 : (sl_u a 39 (kx kn (a 39))) 39 = kx kn (a 39) := sl_u_eq
  have hbR : (sl_u a 39 (kx kn (a 39))) 38 = s := hR
  have hbO : ∀ k, k ∉ [39, 40, 41, 42, 43, 45] → (sl_u a 39 (kx kn (a 39))) k = a k := fun k hk => sl_u_ne (fun e => hk (by rw [e]; decide))
  generalize (sl_u a 39 (kx kn (a 39))) = b at *
  -- no arcs
  have zer : ∀ n k, k + n = 1024 → ∀ (z2 z3 : Option Value) (Q : Option Value → sl_M → Prop), (∀ z1, sl_V YX12_laysPoints none 2 0 0 Q 97 [some (.ref 68), z1, z2, z3] [] (rf_S v w (sl_u b 42 (mx (fun _ => nI 0) (b 42))) nm M)) → sl_V YX12_laysPoints none 2 0 0 Q 75 [some (.ref 68), some (.int (nI k)), z2, z3] [] (rf_S v w (sl_u b 42 (ptf (b 42) (mx (fun _ => nI 0) (b 42)) k)) nm M) := by
    intro n
    induction n with
    | zero =>
      intro k hk z2 z3 Q hQ
      have e : k = 1024 := by omega
      subst e
      rw [ptf_end (fun p hp => by unfold mx mb; rw [if_neg (by omega)])]
      refine slv_iload_n eX12_laysPoints_75 rfl ?_
      refine slv_aload_n eX12_laysPoints_76 rfl ?_
      refine slr_ga (p := 89) eX12_laysPoints_77 fX12_76 rfl ?_
      refine slv_alen eX12_laysPoints_80 rfl rfl rfl ?_
      refine slv_top (w := .int (nI 1024)) rfl ?_
      refine slv_icmp_geN eX12_laysPoints_81 (by omega) (by omega) (fun h81 => ?_) (fun h81 => absurd h81 (by omega))
      exact hQ _
    | succ n ih =>
      intro k hk z2 z3 Q hQ
      have h0 : mx (fun _ => nI 0) (b 42) k = nI 0 := by
        unfold mx mb
        rw [if_pos (by omega)]
        show sl_bi (sl_bt (nI 0) (k % 32)) = nI 0
        rw [sl_bt_0]
        rfl
      refine slv_iload_n eX12_laysPoints_75 rfl ?_
      refine slv_aload_n eX12_laysPoints_76 rfl ?_
      refine slr_ga (p := 89) eX12_laysPoints_77 fX12_76 rfl ?_
      refine slv_alen eX12_laysPoints_80 rfl rfl rfl ?_
      refine slv_top (w := .int (nI 1024)) rfl ?_
      refine slv_icmp_geN eX12_laysPoints_81 (by omega) (by omega) (fun h81 => absurd h81 (by omega)) (fun h81 => ?_)
      refine slv_aload_n eX12_laysPoints_84 rfl ?_
      refine slr_ga (p := 89) eX12_laysPoints_85 fX12_76 rfl ?_
      refine slv_iload_n eX12_laysPoints_88 rfl ?_
      refine slv_iconst (v := nI 0) eX12_laysPoints_89 (by decide) ?_
      refine slr_zastX (k := 42) (p := 89) (len := 1024) eX12_laysPoints_90 rfl (by repeat (first | exact sl_u_eq | assumption | apply rf_ne (by decide) | exact rfl)) (by omega) (by decide) nar0 (rf_t42 _ _ _ _ _) ?_
      refine slv_iincN (lv' := [_, _, _, _]) eX12_laysPoints_91 rfl (by decide) rfl ?_
      refine slv_goto eX12_laysPoints_94 ?_
      refine slv_mem ?_ (ih (k + 1) (by omega) _ _ Q hQ)
      rw [sl_u_u, ptf_st h0]
  have e2 : rf_S v w b nm M = rf_S v w (sl_u b 42 (ptf (b 42) (mx (fun _ => nI 0) (b 42)) 0)) nm M := by rw [ptf_0, sl_u_self]
  have hl2 := zer 1024 0 (by omega)
  rw [← e2] at hl2
  refine slv_iconst (v := nI 0) eX12_laysPoints_73 (by decide) ?_
  refine slv_istore_n (i := 1) (lv' := [_, _, _, _]) eX12_laysPoints_74 rfl (by decide) rfl ?_
  refine hl2 _ _ _ (fun z1 => ?_)
  -- arcs
  have arc1 : ∀ (m i x : Nat) (ar : Nat → Int32), i + m = e + 1 → x ≤ e → ∀ (z3 : Option Value) (Q : Option Value → sl_M → Prop), (∀ z2, sl_V YX12_laysPoints none 2 0 0 Q 195 [some (.ref 68), some (.int (nI x)), z2, z3] [] (rf_S v w (sl_u b 42 (mx (lk_aa s kn x m i ar) (b 42))) nm M)) → sl_V YX12_laysPoints none 2 0 0 Q 109 [some (.ref 68), some (.int (nI x)), some (.int (nI i)), z3] [] (rf_S v w (sl_u b 42 (mx ar (b 42))) nm M) := by
    intro m
    induction m with
    | zero =>
      intro i x ar hi hx z3 Q hQ
      refine slv_iload_n eX12_laysPoints_109 rfl ?_
      refine slv_aload_n eX12_laysPoints_110 rfl ?_
      refine slr_gi eX12_laysPoints_111 fX12_324 rfl (by repeat (first | exact sl_u_eq | assumption | apply rf_ne (by decide) | exact rfl)) ?_
      refine slv_icmp_gtN eX12_laysPoints_114 (by omega) (by omega) (fun h114 => ?_) (fun h114 => absurd h114 (by omega))
      exact hQ _
    | succ m ih =>
      intro i x ar hi hx z3 Q hQ
      have hQ' : ∀ z2, sl_V YX12_laysPoints none 2 0 0 Q 195 [some (.ref 68), some (.int (nI x)), z2, z3] [] (rf_S v w (sl_u b 42 (mx (lk_aa s kn x m (i + 1) (lk_a4 s kn x i (lk_a1 s kn x i ar))) (b 42))) nm M) := hQ
      have k1 := hkl x (by omega)
      have k2 := hkl (16 + i) (by omega)
      have v1 : kx kn (a 39) x = nI (kn x) := kx_lt (by omega)
      have v2 : kx kn (a 39) (16 + i) = nI (kn (16 + i)) := kx_lt (by omega)
      have part : ∀ (ar : Nat → Int32), (∀ z2, sl_V YX12_laysPoints none 2 0 0 Q 195 [some (.ref 68), some (.int (nI x)), z2, z3] [] (rf_S v w (sl_u b 42 (mx (lk_aa s kn x m (i + 1) (lk_a4 s kn x i ar)) (b 42))) nm M)) → sl_V YX12_laysPoints none 2 0 0 Q 153 [some (.ref 68), some (.int (nI x)), some (.int (nI i)), z3] [] (rf_S v w (sl_u b 42 (mx ar (b 42))) nm M) := by
        intro ar hq
        unfold lk_a4 at hq
        refine slv_aload_n eX12_laysPoints_153 rfl ?_
        refine slv_iload_n eX12_laysPoints_154 rfl ?_
        refine slv_iload_n eX12_laysPoints_155 rfl ?_
        refine slv_rV (As := [_, _]) eX12_laysPoints_156 lX12_371 rfl rfl rf_68 rfl (hA (sl_u b 42 (mx ar (b 42))) hbR x i (by omega) (by omega)) (by decide) (Nat.le_of_ble_eq_true rfl) ?_
        refine slv_iconst (v := nI 4) eX12_laysPoints_159 (by decide) ?_
        refine slv_iand eX12_laysPoints_160 ?_
        refine slv_if_eq eX12_laysPoints_161 (fun h161 => ?_) (fun h161 => ?_)
        · refine slv_iincN (lv' := [_, _, _, _]) eX12_laysPoints_189 rfl (by decide) rfl ?_
          refine slv_goto eX12_laysPoints_192 ?_
          first | (rw [decide_eq_true h161, cond_true] at hq; exact ih (i + 1) x ar (by omega) hx _ Q hq) | (rw [decide_eq_false h161, cond_false] at hq; rw [sl_u_u, mx_set (by omega) (by omega)]; exact ih (i + 1) x _ (by omega) hx _ Q hq)
        · refine slv_aload_n eX12_laysPoints_164 rfl ?_
          refine slr_ga (p := 89) eX12_laysPoints_165 fX12_76 rfl ?_
          refine slv_bipush (v := nI 32) eX12_laysPoints_168 (by decide) ?_
          refine slv_aload_n eX12_laysPoints_170 rfl ?_
          refine slr_ga (p := 86) eX12_laysPoints_171 fX12_67 rfl ?_
          refine slv_iload_n eX12_laysPoints_174 rfl ?_
          refine slr_ialdX (k := 39) (p := 86) (len := 32) eX12_laysPoints_175 rfl (by repeat (first | exact sl_u_eq | assumption | apply rf_ne (by decide) | exact rfl)) (by omega) (by decide) v1 ?_
          refine slv_imulN eX12_laysPoints_176 ?_
          refine slv_aload_n eX12_laysPoints_177 rfl ?_
          refine slr_ga (p := 86) eX12_laysPoints_178 fX12_67 rfl ?_
          refine slv_bipush (v := nI 16) eX12_laysPoints_181 (by decide) ?_
          refine slv_iload_n eX12_laysPoints_183 rfl ?_
          refine slv_iaddN eX12_laysPoints_184 ?_
          refine slr_ialdX (k := 39) (p := 86) (len := 32) eX12_laysPoints_185 rfl (by repeat (first | exact sl_u_eq | assumption | apply rf_ne (by decide) | exact rfl)) (by omega) (by decide) v2 ?_
          refine slv_iaddN eX12_laysPoints_186 ?_
          refine slv_iconst (v := nI 1) eX12_laysPoints_187 (by decide) ?_
          refine slr_zastX (k := 42) (p := 89) (len := 1024) eX12_laysPoints_188 rfl (by repeat (first | exact sl_u_eq | assumption | apply rf_ne (by decide) | exact rfl)) (by omega) (by decide) nar1 (rf_t42 _ _ _ _ _) ?_
          refine slv_iincN (lv' := [_, _, _, _]) eX12_laysPoints_189 rfl (by decide) rfl ?_
          refine slv_goto eX12_laysPoints_192 ?_
          first | (rw [decide_eq_true h161, cond_true] at hq; exact ih (i + 1) x ar (by omega) hx _ Q hq) | (rw [decide_eq_false h161, cond_false] at hq; rw [sl_u_u, mx_set (by omega) (by omega)]; exact ih (i + 1) x _ (by omega) hx _ Q hq)
      unfold lk_a1 at hQ'
      refine slv_iload_n eX12_laysPoints_109 rfl ?_
      refine slv_aload_n eX12_laysPoints_110 rfl ?_
      refine slr_gi eX12_laysPoints_111 fX12_324 rfl (by repeat (first | exact sl_u_eq | assumption | apply rf_ne (by decide) | exact rfl)) ?_
      refine slv_icmp_gtN eX12_laysPoints_114 (by omega) (by omega) (fun h114 => absurd h114 (by omega)) (fun h114 => ?_)
      refine slv_aload_n eX12_laysPoints_117 rfl ?_
      refine slv_iload_n eX12_laysPoints_118 rfl ?_
      refine slv_iload_n eX12_laysPoints_119 rfl ?_
      refine slv_rV (As := [_, _]) eX12_laysPoints_120 lX12_371 rfl rfl rf_68 rfl (hA (sl_u b 42 (mx ar (b 42))) hbR x i (by omega) (by omega)) (by decide) (Nat.le_of_ble_eq_true rfl) ?_
      refine slv_iconst (v := nI 1) eX12_laysPoints_123 (by decide) ?_
      refine slv_iand eX12_laysPoints_124 ?_
      refine slv_if_eq eX12_laysPoints_125 (fun h125 => ?_) (fun h125 => ?_)
      · first | (rw [decide_eq_true h125, cond_true] at hQ'; exact part ar hQ') | (rw [decide_eq_false h125, cond_false] at hQ'; rw [sl_u_u, mx_set (by omega) (by omega)]; exact part _ hQ')
      · refine slv_aload_n eX12_laysPoints_128 rfl ?_
        refine slr_ga (p := 89) eX12_laysPoints_129 fX12_76 rfl ?_
        refine slv_bipush (v := nI 32) eX12_laysPoints_132 (by decide) ?_
        refine slv_aload_n eX12_laysPoints_134 rfl ?_
        refine slr_ga (p := 86) eX12_laysPoints_135 fX12_67 rfl ?_
        refine slv_bipush (v := nI 16) eX12_laysPoints_138 (by decide) ?_
        refine slv_iload_n eX12_laysPoints_140 rfl ?_
        refine slv_iaddN eX12_laysPoints_141 ?_
        refine slr_ialdX (k := 39) (p := 86) (len := 32) eX12_laysPoints_142 rfl (by repeat (first | exact sl_u_eq | assumption | apply rf_ne (by decide) | exact rfl)) (by omega) (by decide) v2 ?_
        refine slv_imulN eX12_laysPoints_143 ?_
        refine slv_aload_n eX12_laysPoints_144 rfl ?_
        refine slr_ga (p := 86) eX12_laysPoints_145 fX12_67 rfl ?_
        refine slv_iload_n eX12_laysPoints_148 rfl ?_
        refine slr_ialdX (k := 39) (p := 86) (len := 32) eX12_laysPoints_149 rfl (by repeat (first | exact sl_u_eq | assumption | apply rf_ne (by decide) | exact rfl)) (by omega) (by decide) v1 ?_
        refine slv_iaddN eX12_laysPoints_150 ?_
        refine slv_iconst (v := nI 1) eX12_laysPoints_151 (by decide) ?_
        refine slr_zastX (k := 42) (p := 89) (len := 1024) eX12_laysPoints_152 rfl (by repeat (first | exact sl_u_eq | assumption | apply rf_ne (by decide) | exact rfl)) (by omega) (by decide) nar1 (rf_t42 _ _ _ _ _) ?_
        first | (rw [decide_eq_true h125, cond_true] at hQ'; exact part ar hQ') | (rw [decide_eq_false h125, cond_false] at hQ'; rw [sl_u_u, mx_set (by omega) (by omega)]; exact part _ hQ')
  have arc2 : ∀ (m i : Nat) (ar : Nat → Int32), i + m = e + 1 → ∀ (z2 z3 : Option Value) (Q : Option Value → sl_M → Prop), (∀ z1 z2, sl_V YX12_laysPoints none 2 0 0 Q 201 [some (.ref 68), z1, z2, z3] [] (rf_S v w (sl_u b 42 (mx (lk_ar s kn e m i ar) (b 42))) nm M)) → sl_V YX12_laysPoints none 2 0 0 Q 99 [some (.ref 68), some (.int (nI i)), z2, z3] [] (rf_S v w (sl_u b 42 (mx ar (b 42))) nm M) := by
    intro m
    induction m with
    | zero =>
      intro i ar hi z2 z3 Q hQ
      refine slv_iload_n eX12_laysPoints_99 rfl ?_
      refine slv_aload_n eX12_laysPoints_100 rfl ?_
      refine slr_gi eX12_laysPoints_101 fX12_324 rfl (by repeat (first | exact sl_u_eq | assumption | apply rf_ne (by decide) | exact rfl)) ?_
      refine slv_icmp_gtN eX12_laysPoints_104 (by omega) (by omega) (fun h104 => ?_) (fun h104 => absurd h104 (by omega))
      exact hQ _ _
    | succ m ih =>
      intro i ar hi z2 z3 Q hQ
      refine slv_iload_n eX12_laysPoints_99 rfl ?_
      refine slv_aload_n eX12_laysPoints_100 rfl ?_
      refine slr_gi eX12_laysPoints_101 fX12_324 rfl (by repeat (first | exact sl_u_eq | assumption | apply rf_ne (by decide) | exact rfl)) ?_
      refine slv_icmp_gtN eX12_laysPoints_104 (by omega) (by omega) (fun h104 => absurd h104 (by omega)) (fun h104 => ?_)
      refine slv_iconst (v := nI 0) eX12_laysPoints_107 (by decide) ?_
      refine slv_istore_n (i := 2) (lv' := [_, _, _, _]) eX12_laysPoints_108 rfl (by decide) rfl ?_
      refine arc1 (e + 1) 0 i ar (by omega) (by omega) _ Q (fun z2 => ?_)
      refine slv_iincN (lv' := [_, _, _, _]) eX12_laysPoints_195 rfl (by decide) rfl ?_
      refine slv_goto eX12_laysPoints_198 ?_
      exact ih (i + 1) _ (by omega) _ _ Q hQ
  refine slv_iconst (v := nI 0) eX12_laysPoints_97 (by decide) ?_
  refine slv_istore_n (i := 1) (lv' := [_, _, _, _]) eX12_laysPoints_98 rfl (by decide) rfl ?_
  refine arc2 (e + 1) 0 _ (by omega) _ _ _ (fun z1 z2 => ?_)
  have hz := lk_A_gz (s := s) he
  have hAr : lk_ar s kn e (e + 1) 0 (fun _ => nI 0) = lk_A s e := by rw [← hKn]; rfl
  rw [hAr]
  have hd1 : (sl_u b 42 (mx (lk_A s e) (b 42))) 42 = mx (lk_A s e) (b 42) := sl_u_eq
  have hd2 : (sl_u b 42 (mx (lk_A s e) (b 42))) 39 = kx kn (a 39) := hb1
  have hdO : ∀ k, k ∉ [39, 40, 41, 42, 43, 45] → (sl_u b 42 (mx (lk_A s e) (b 42))) k = a k := fun k hk => (sl_u_ne (fun e => hk (by rw [e]; decide))).trans (hbO k hk)
  generalize b 42 = fA at *
  generalize (sl_u b 42 (mx (lk_A s e) fA)) = d at *
  -- what is reached: arcs first
  have cpy : ∀ n k, k + n = 1024 → ∀ (z2 z3 : Option Value) (Q : Option Value → sl_M → Prop), (∀ z1, sl_V YX12_laysPoints none 2 0 0 Q 230 [some (.ref 68), z1, z2, z3] [] (rf_S v w (sl_u d 43 (mx (lk_A s e) (d 43))) nm M)) → sl_V YX12_laysPoints none 2 0 0 Q 203 [some (.ref 68), some (.int (nI k)), z2, z3] [] (rf_S v w (sl_u d 43 (ptf (d 43) (mx (lk_A s e) (d 43)) k)) nm M) := by
    intro n
    induction n with
    | zero =>
      intro k hk z2 z3 Q hQ
      have e : k = 1024 := by omega
      subst e
      rw [ptf_end (fun p hp => by unfold mx mb; rw [if_neg (by omega)])]
      refine slv_iload_n eX12_laysPoints_203 rfl ?_
      refine slv_aload_n eX12_laysPoints_204 rfl ?_
      refine slr_ga (p := 89) eX12_laysPoints_205 fX12_76 rfl ?_
      refine slv_alen eX12_laysPoints_208 rfl rfl rfl ?_
      refine slv_top (w := .int (nI 1024)) rfl ?_
      refine slv_icmp_geN eX12_laysPoints_209 (by omega) (by omega) (fun h209 => ?_) (fun h209 => absurd h209 (by omega))
      exact hQ _
    | succ n ih =>
      intro k hk z2 z3 Q hQ
      have h0 : ∀ f, mx (lk_A s e) f k = sl_bi (sl_bt (lk_A s e (k / 32)) (k % 32)) := by
        intro f
        unfold mx mb
        rw [if_pos (by omega)]
      refine slv_iload_n eX12_laysPoints_203 rfl ?_
      refine slv_aload_n eX12_laysPoints_204 rfl ?_
      refine slr_ga (p := 89) eX12_laysPoints_205 fX12_76 rfl ?_
      refine slv_alen eX12_laysPoints_208 rfl rfl rfl ?_
      refine slv_top (w := .int (nI 1024)) rfl ?_
      refine slv_icmp_geN eX12_laysPoints_209 (by omega) (by omega) (fun h209 => absurd h209 (by omega)) (fun h209 => ?_)
      refine slv_aload_n eX12_laysPoints_212 rfl ?_
      refine slr_ga (p := 90) eX12_laysPoints_213 fX12_80 rfl ?_
      refine slv_iload_n eX12_laysPoints_216 rfl ?_
      refine slv_aload_n eX12_laysPoints_217 rfl ?_
      refine slr_ga (p := 89) eX12_laysPoints_218 fX12_76 rfl ?_
      refine slv_iload_n eX12_laysPoints_221 rfl ?_
      refine slr_zaldX (k := 42) (p := 89) (len := 1024) eX12_laysPoints_222 rfl (by repeat (first | exact sl_u_eq | assumption | apply rf_ne (by decide) | exact rfl)) (by omega) (by decide) (h0 _) ?_
      refine slr_zastX (k := 43) (p := 90) (len := 1024) eX12_laysPoints_223 rfl (by repeat (first | exact sl_u_eq | assumption | apply rf_ne (by decide) | exact rfl)) (by omega) (by decide) (sl_nar_bi _) (rf_t43 _ _ _ _ _) ?_
      refine slv_iincN (lv' := [_, _, _, _]) eX12_laysPoints_224 rfl (by decide) rfl ?_
      refine slv_goto eX12_laysPoints_227 ?_
      refine slv_mem ?_ (ih (k + 1) (by omega) _ _ Q hQ)
      rw [sl_u_u, ptf_st (h0 _)]
  have e3 : rf_S v w d nm M = rf_S v w (sl_u d 43 (ptf (d 43) (mx (lk_A s e) (d 43)) 0)) nm M := by rw [ptf_0, sl_u_self]
  have hl3 := cpy 1024 0 (by omega)
  rw [← e3] at hl3
  refine slv_iconst (v := nI 0) eX12_laysPoints_201 (by decide) ?_
  refine slv_istore_n (i := 1) (lv' := [_, _, _, _]) eX12_laysPoints_202 rfl (by decide) rfl ?_
  refine hl3 _ _ _ (fun z1 => ?_)
  -- then all
  generalize d 43 = fR at *
  have wq : ∀ (n i m p : Nat) (re : Nat → Int32), i + n = 32 → m < 32 → p < 32 → ∀ (Q : Option Value → sl_M → Prop), (∀ z3, sl_V YX12_laysPoints none 2 0 0 Q 300 [some (.ref 68), some (.int (nI m)), some (.int (nI p)), z3] [] (rf_S v w (sl_u d 43 (mx (cond (sl_bt (re p) m) (sl_u re p (re p ||| re m)) re) fR)) nm M)) → sl_V YX12_laysPoints none 2 0 0 Q 248 [some (.ref 68), some (.int (nI m)), some (.int (nI p)), some (.int (nI i))] [] (rf_S v w (sl_u d 43 (mb (wrw (fun p q => sl_bt (re p) q) m p i) fR)) nm M) := by
    intro n
    induction n with
    | zero =>
      intro i m p re hi hm hp Q hQ
      have e : i = 32 := by omega
      subst e
      rw [wrw_32]
      refine slv_iload_n eX12_laysPoints_248 rfl ?_
      refine slv_bipush (v := nI 32) eX12_laysPoints_249 (by decide) ?_
      refine slv_icmp_geN eX12_laysPoints_251 (by omega) (by omega) (fun h251 => ?_) (fun h251 => absurd h251 (by omega))
      exact hQ _
    | succ n ih =>
      intro i m p re hi hm hp Q hQ
      have v1 : mb (wrw (fun p q => sl_bt (re p) q) m p i) fR (32 * p + m) = sl_bi (sl_bt (re p) m) := by rw [mb_at hp hm, wrw_pm]
      have v2 : mb (wrw (fun p q => sl_bt (re p) q) m p i) fR (32 * m + i) = sl_bi (sl_bt (re m) i) := by rw [mb_at hm (by omega), wrw_mi]
      refine slv_iload_n eX12_laysPoints_248 rfl ?_
      refine slv_bipush (v := nI 32) eX12_laysPoints_249 (by decide) ?_
      refine slv_icmp_geN eX12_laysPoints_251 (by omega) (by omega) (fun h251 => absurd h251 (by omega)) (fun h251 => ?_)
      refine slv_aload_n eX12_laysPoints_254 rfl ?_
      refine slr_ga (p := 90) eX12_laysPoints_255 fX12_80 rfl ?_
      refine slv_bipush (v := nI 32) eX12_laysPoints_258 (by decide) ?_
      refine slv_iload_n eX12_laysPoints_260 rfl ?_
      refine slv_imulN eX12_laysPoints_261 ?_
      refine slv_iload_n eX12_laysPoints_262 rfl ?_
      refine slv_iaddN eX12_laysPoints_263 ?_
      refine slr_zaldX (k := 43) (p := 90) (len := 1024) eX12_laysPoints_264 rfl (by repeat (first | exact sl_u_eq | assumption | apply rf_ne (by decide) | exact rfl)) (by omega) (by decide) v1 ?_
      refine slv_if_eqB eX12_laysPoints_265 (fun h265 => ?_) (fun h265 => ?_)
      · refine slv_iincN (lv' := [_, _, _, _]) eX12_laysPoints_294 rfl (by decide) rfl ?_
        refine slv_goto eX12_laysPoints_297 ?_
        refine slv_mem ?_ (ih (i + 1) m p re (by omega) hm hp Q hQ)
        first | (rw [wrw_skip (Bool.and_eq_false_iff.mpr (Or.inl h265))]; done) | (rw [wrw_skip (Bool.and_eq_false_iff.mpr (Or.inr h279))]; done) | (rw [sl_u_u, mb_set hp (by omega), wrw_set h265 h279])
      · refine slv_aload_n eX12_laysPoints_268 rfl ?_
        refine slr_ga (p := 90) eX12_laysPoints_269 fX12_80 rfl ?_
        refine slv_bipush (v := nI 32) eX12_laysPoints_272 (by decide) ?_
        refine slv_iload_n eX12_laysPoints_274 rfl ?_
        refine slv_imulN eX12_laysPoints_275 ?_
        refine slv_iload_n eX12_laysPoints_276 rfl ?_
        refine slv_iaddN eX12_laysPoints_277 ?_
        refine slr_zaldX (k := 43) (p := 90) (len := 1024) eX12_laysPoints_278 rfl (by repeat (first | exact sl_u_eq | assumption | apply rf_ne (by decide) | exact rfl)) (by omega) (by decide) v2 ?_
        refine slv_if_eqB eX12_laysPoints_279 (fun h279 => ?_) (fun h279 => ?_)
        · refine slv_iincN (lv' := [_, _, _, _]) eX12_laysPoints_294 rfl (by decide) rfl ?_
          refine slv_goto eX12_laysPoints_297 ?_
          refine slv_mem ?_ (ih (i + 1) m p re (by omega) hm hp Q hQ)
          first | (rw [wrw_skip (Bool.and_eq_false_iff.mpr (Or.inl h265))]; done) | (rw [wrw_skip (Bool.and_eq_false_iff.mpr (Or.inr h279))]; done) | (rw [sl_u_u, mb_set hp (by omega), wrw_set h265 h279])
        · refine slv_aload_n eX12_laysPoints_282 rfl ?_
          refine slr_ga (p := 90) eX12_laysPoints_283 fX12_80 rfl ?_
          refine slv_bipush (v := nI 32) eX12_laysPoints_286 (by decide) ?_
          refine slv_iload_n eX12_laysPoints_288 rfl ?_
          refine slv_imulN eX12_laysPoints_289 ?_
          refine slv_iload_n eX12_laysPoints_290 rfl ?_
          refine slv_iaddN eX12_laysPoints_291 ?_
          refine slv_iconst (v := nI 1) eX12_laysPoints_292 (by decide) ?_
          refine slr_zastX (k := 43) (p := 90) (len := 1024) eX12_laysPoints_293 rfl (by repeat (first | exact sl_u_eq | assumption | apply rf_ne (by decide) | exact rfl)) (by omega) (by decide) nar1 (rf_t43 _ _ _ _ _) ?_
          refine slv_iincN (lv' := [_, _, _, _]) eX12_laysPoints_294 rfl (by decide) rfl ?_
          refine slv_goto eX12_laysPoints_297 ?_
          refine slv_mem ?_ (ih (i + 1) m p re (by omega) hm hp Q hQ)
          first | (rw [wrw_skip (Bool.and_eq_false_iff.mpr (Or.inl h265))]; done) | (rw [wrw_skip (Bool.and_eq_false_iff.mpr (Or.inr h279))]; done) | (rw [sl_u_u, mb_set hp (by omega), wrw_set h265 h279])
  have wp : ∀ (n i m : Nat) (re : Nat → Int32), i + n = 32 → m < 32 → ∀ (z3 : Option Value) (Q : Option Value → sl_M → Prop), (∀ z2 z3, sl_V YX12_laysPoints none 2 0 0 Q 306 [some (.ref 68), some (.int (nI m)), z2, z3] [] (rf_S v w (sl_u d 43 (mx (lk_w1 m n i re) fR)) nm M)) → sl_V YX12_laysPoints none 2 0 0 Q 240 [some (.ref 68), some (.int (nI m)), some (.int (nI i)), z3] [] (rf_S v w (sl_u d 43 (mx re fR)) nm M) := by
    intro n
    induction n with
    | zero =>
      intro i m re hi hm z3 Q hQ
      refine slv_iload_n eX12_laysPoints_240 rfl ?_
      refine slv_bipush (v := nI 32) eX12_laysPoints_241 (by decide) ?_
      refine slv_icmp_geN eX12_laysPoints_243 (by omega) (by omega) (fun h243 => ?_) (fun h243 => absurd h243 (by omega))
      exact hQ _ _
    | succ n ih =>
      intro i m re hi hm z3 Q hQ
      have hq := wq 32 0 m i re (by omega) hm (by omega) Q
      rw [wrw_0] at hq
      refine slv_iload_n eX12_laysPoints_240 rfl ?_
      refine slv_bipush (v := nI 32) eX12_laysPoints_241 (by decide) ?_
      refine slv_icmp_geN eX12_laysPoints_243 (by omega) (by omega) (fun h243 => absurd h243 (by omega)) (fun h243 => ?_)
      refine slv_iconst (v := nI 0) eX12_laysPoints_246 (by decide) ?_
      refine slv_istore_n (i := 3) (lv' := [_, _, _, _]) eX12_laysPoints_247 rfl (by decide) rfl ?_
      refine hq (fun z3 => ?_)
      refine slv_iincN (lv' := [_, _, _, _]) eX12_laysPoints_300 rfl (by decide) rfl ?_
      refine slv_goto eX12_laysPoints_303 ?_
      exact ih (i + 1) m _ (by omega) hm _ Q hQ
  have wm : ∀ (n i : Nat) (re : Nat → Int32), i + n = 32 → ∀ (z2 z3 : Option Value) (Q : Option Value → sl_M → Prop), (∀ z1 z2 z3, sl_V YX12_laysPoints none 2 0 0 Q 312 [some (.ref 68), z1, z2, z3] [] (rf_S v w (sl_u d 43 (mx (rf_wa n i re) fR)) nm M)) → sl_V YX12_laysPoints none 2 0 0 Q 232 [some (.ref 68), some (.int (nI i)), z2, z3] [] (rf_S v w (sl_u d 43 (mx re fR)) nm M) := by
    intro n
    induction n with
    | zero =>
      intro i re hi z2 z3 Q hQ
      refine slv_iload_n eX12_laysPoints_232 rfl ?_
      refine slv_bipush (v := nI 32) eX12_laysPoints_233 (by decide) ?_
      refine slv_icmp_geN eX12_laysPoints_235 (by omega) (by omega) (fun h235 => ?_) (fun h235 => absurd h235 (by omega))
      exact hQ _ _ _
    | succ n ih =>
      intro i re hi z2 z3 Q hQ
      refine slv_iload_n eX12_laysPoints_232 rfl ?_
      refine slv_bipush (v := nI 32) eX12_laysPoints_233 (by decide) ?_
      refine slv_icmp_geN eX12_laysPoints_235 (by omega) (by omega) (fun h235 => absurd h235 (by omega)) (fun h235 => ?_)
      refine slv_iconst (v := nI 0) eX12_laysPoints_238 (by decide) ?_
      refine slv_istore_n (i := 2) (lv' := [_, _, _, _]) eX12_laysPoints_239 rfl (by decide) rfl ?_
      refine wp 32 0 i re (by omega) (by omega) _ Q (fun z2 z3 => ?_)
      refine slv_iincN (lv' := [_, _, _, _]) eX12_laysPoints_306 rfl (by decide) rfl ?_
      refine slv_goto eX12_laysPoints_309 ?_
      exact ih (i + 1) _ (by omega) _ _ Q hQ
  refine slv_iconst (v := nI 0) eX12_laysPoints_230 (by decide) ?_
  refine slv_istore_n (i := 1) (lv' := [_, _, _, _]) eX12_laysPoints_231 rfl (by decide) rfl ?_
  refine wm 32 0 _ (by omega) _ _ _ (fun z1 z2 z3 => ?_)
  rw [(rf_wa_eq hz).1]
  have hRg := c_X12_laysRing (v := v) (w := w) (nm := nm) (M := M) (a := sl_u d 43 (mx (lk_wa 28 0 (lk_A s e)) fR)) (ar := lk_A s e) (f1 := fA) (f2 := fR) hd1 sl_u_eq hz
  refine slv_aload_n eX12_laysPoints_312 rfl ?_
  refine slv_callV (As := []) eX12_laysPoints_313 lX12_393 rfl rfl rf_68 rfl hRg (by decide) (Nat.le_of_ble_eq_true rfl) (Nat.zero_add _).symm (Nat.zero_add _).symm (Or.inl rfl) ?_
  rintro _ _ ⟨rfl, v1, a1, rfl, hv1, ha1, hq1⟩
  skip
  have ha1O : ∀ k, k ∉ [39, 40, 41, 42, 43, 45] → a1 k = a k := fun k hk => (ha1 k (fun q => hk (by revert q; simp; omega))).trans ((sl_u_ne (fun e => hk (by rw [e]; decide))).trans (hdO k hk))
  have hk1 : a1 39 = kx kn (a 39) := (ha1 _ (by decide)).trans hd2
  have hc1 : a1 42 = mx (lk_A s e) fA := (ha1 _ (by decide)).trans hd1
  rw [← hKn] at hk1
  by_cases h0 : v1 44 = nI 0
  · have hcyc : ∀ p, p < 28 → sl_bt (lk_wa 28 0 (lk_A s e) p) p = false := by
      intro p hp
      cases hs0 : sl_fn (fun p => sl_bt (lk_wa 28 0 (lk_A s e) p) p) 28 0 with
      | none => exact sl_fn_none' 28 0 hs0 p (Nat.zero_le p) (by omega)
      | some p0 =>
        unfold rg_Q at hq1
        rw [hs0] at hq1
        obtain ⟨_, hs28, hr⟩ := sl_fn_lt 28 0 p0 hs0
        obtain ⟨L, l1, l2, _⟩ := rl_spec hz (show p0 < 28 by omega) hr
        have := hq1.1
        rw [h0, l1] at this
        exact absurd ((nI_inj (by decide) (by omega)).mp this) (by omega)
    have hHi := c_X12_laysHighs (v := v1) (w := w) (nm := nm) (M := M) hc1 (rfl : a1 40 = a1 40) hz hcyc
    refine slv_aload_n eX12_laysPoints_316 rfl ?_
    refine slr_gi eX12_laysPoints_317 fX12_396 rfl (by repeat (first | exact sl_u_eq | assumption | apply rf_ne (by decide) | exact rfl)) ?_
    refine slv_if_ne eX12_laysPoints_320 (fun h320 => absurd rfl h320) (fun h320 => ?_)
    refine slv_aload_n eX12_laysPoints_323 rfl ?_
    refine slv_rV (As := []) eX12_laysPoints_324 lX12_399 rfl rfl rf_68 rfl hHi (by decide) (Nat.le_of_ble_eq_true rfl) ?_
    refine slv_vret eX12_laysPoints_327 rfl ?_
    refine ⟨rfl, v1, _, rfl, hv1, fun k hk => (sl_u_ne (fun e => hk (by rw [e]; decide))).trans (ha1O k hk), ?_⟩
    rw [← hKn]
    exact rf_K_of he (f0 := a 39) (f3 := a1 40) ((sl_u_ne (by decide)).trans hk1) (by unfold rg_Q at hq1 ⊢; exact hq1) (fun _ => sl_u_eq)
  · refine slv_aload_n eX12_laysPoints_316 rfl ?_
    refine slr_gi eX12_laysPoints_317 fX12_396 rfl (by repeat (first | exact sl_u_eq | assumption | apply rf_ne (by decide) | exact rfl)) ?_
    refine slv_if_ne eX12_laysPoints_320 (fun h320 => ?_) (fun h320 => absurd h320 h0)
    refine slv_vret eX12_laysPoints_327 rfl ?_
    refine ⟨rfl, v1, a1, rfl, hv1, ha1O, ?_⟩
    rw [← hKn]
    exact rf_K_of he (f0 := a 39) (f3 := a1 40) hk1 hq1 (fun h => absurd h h0)
end RPN
