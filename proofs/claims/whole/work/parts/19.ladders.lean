/-- the first place from i on, n to look at, where p holds -/
def sl_fn (p : Nat → Bool) : Nat → Nat → Option Nat
  | 0, _ => none
  | n + 1, i => cond (p i) (some i) (sl_fn p n (i + 1))
def sl_io : Option Nat → Int32
  | none => -1
  | some k => nI k
theorem sl_fn_none {p : Nat → Bool} (n : Nat) : ∀ i, (∀ k, i ≤ k → p k = false) → sl_fn p n i = none := by
  induction n with
  | zero => intro i _; rfl
  | succ n ih => intro i h; rw [sl_fn, h i (Nat.le_refl i)]; exact ih (i + 1) (fun k hk => h k (by omega))
theorem sl_fn_lt {p : Nat → Bool} (n : Nat) : ∀ i k, sl_fn p n i = some k → i ≤ k ∧ k < i + n ∧ p k = true := by
  induction n with
  | zero => intro i k h; cases h
  | succ n ih =>
    intro i k h
    rw [sl_fn] at h
    cases hp : p i with
    | true => rw [hp] at h; have e : i = k := Option.some.inj h; subst e; exact ⟨Nat.le_refl i, by omega, hp⟩
    | false =>
      rw [hp] at h
      obtain ⟨a1, a2, a3⟩ := ih (i + 1) k h
      exact ⟨by omega, by omega, a3⟩
theorem sl_io_ne {o : Option Nat} (h : ∀ k, o = some k → k < 2147483648) : sl_io o = -1 ↔ o = none := by
  cases o with
  | none => exact ⟨fun _ => rfl, fun _ => rfl⟩
  | some k => exact ⟨fun g => absurd g (nI_neg1 (h k rfl)), fun g => by cases g⟩
theorem ld_rl {e0 : Nat} {l t s : Nat → Int32} {M : sl_M} {rn e : Nat} {rk kn nu ba : Nat → Nat} {ar re : Nat → Int32} (h : rl_at e0 l t s M) : rl_at e0 l t s (ld_set rn e rk kn ar re nu ba M) := by
  obtain ⟨a19, a20, a21, a22⟩ := h
  exact ⟨(ld_out (by decide)).trans a19, (ld_out (by decide)).trans a20, (ld_out (by decide)).trans a21, (ld_out (by decide)).trans a22⟩
set_option maxRecDepth 100000 in
theorem c_X5_has (M : sl_M) (s : Int32) (k : Nat) : sl_R YX5_has 0 [.int s, .int (nI k)] M (some (.int (sl_bi (sl_bt s k)))) M := by
  refine sl_T.of_V (lv := [_, _]) (by decide) rfl (Nat.le_of_ble_eq_true rfl) ?_
  refine slv_iload_n eX5_has_0 rfl ?_
  refine slv_iload_n eX5_has_1 rfl ?_
  refine slv_ishr eX5_has_2 ?_
  refine slv_iconst (v := nI 1) eX5_has_3 (by decide) ?_
  refine slv_iand eX5_has_4 ?_
  refine slv_if_eq eX5_has_5 (fun h5 => ?_) (fun h5 => ?_)
  · refine slv_iconst (v := nI 0) eX5_has_12 (by decide) ?_
    refine slv_zret eX5_has_13 rfl rfl ?_
    exact ⟨by first | (rw [sl_bt_f h5]; rfl) | (rw [sl_bt_t h5]; rfl), rfl⟩
  · refine slv_iconst (v := nI 1) eX5_has_8 (by decide) ?_
    refine slv_goto eX5_has_9 ?_
    refine slv_zret eX5_has_13 rfl rfl ?_
    exact ⟨by first | (rw [sl_bt_f h5]; rfl) | (rw [sl_bt_t h5]; rfl), rfl⟩
section LAD
variable {rn e : Nat} {rk kn nu ba : Nat → Nat} {ar re : Nat → Int32} {M : sl_M}
/-- where a or b stood: the lesser -/
def lk_tie (kn : Nat → Nat) (a b m : Nat) : Nat → Nat := fun p => if p < m ∧ kn p = max a b then min a b else kn p
set_option maxRecDepth 100000 in
theorem c_X5_tie (h : ld_at rn e rk kn ar re nu ba M) (hk : ∀ p, p < 28 → kn p < 28) {a b : Nat} (ha : a < 28) (hb : b < 28) : sl_R YX5_tie 1 [.ref 23, .int (nI a), .int (nI b)] M none (ld_set rn e rk (lk_tie kn a b 28) ar re nu ba M) := by
  refine sl_T.of_V (lv := [_, _, _, _, _, _]) (by decide) rfl (Nat.le_of_ble_eq_true rfl) ?_
  have loop : ∀ n i : Nat, i + n = 28 → ∀ Q : Option Value → sl_M → Prop, Q none (ld_set rn e rk (lk_tie kn a b 28) ar re nu ba M) → sl_V YX5_tie none 1 0 0 Q 16 [some (.ref 23), some (.int (nI a)), some (.int (nI b)), some (.int (nI (min a b))), some (.int (nI (max a b))), some (.int (nI i))] [] (ld_set rn e rk (lk_tie kn a b i) ar re nu ba M) := by
    intro n
    induction n with
    | zero =>
      intro i hi Q hQ
      have e3 : i = 28 := by omega
      subst e3
      refine slv_iload eX5_tie_16 rfl ?_
      refine slv_bipush (v := nI 28) eX5_tie_18 (by decide) ?_
      refine slv_icmp_geN eX5_tie_20 (by omega) (by omega) (fun h20 => ?_) (fun h20 => absurd h20 (by omega))
      refine slv_vret eX5_tie_49 rfl ?_
      exact hQ
    | succ n ih =>
      intro i hi Q hQ
      have hki := hk i (by omega)
      have e1 : lk_tie kn a b i i = kn i := by rw [lk_tie, if_neg (by omega)]
      have e2 : lk_tie kn a b i i < 2147483648 := by omega
      have step1 : kn i = max a b → sl_u (lk_tie kn a b i) i (min a b) = lk_tie kn a b (i + 1) := by
        intro q
        funext j
        by_cases g : j = i
        · subst g; rw [sl_u_eq, lk_tie, if_pos ⟨by omega, q⟩]
        · rw [sl_u_ne g]
          simp only [lk_tie]
          by_cases z : kn j = max a b
          · by_cases y : j < i
            · rw [if_pos ⟨y, z⟩, if_pos ⟨by omega, z⟩]
            · rw [if_neg (by omega), if_neg (by omega)]
          · rw [if_neg (fun w => z w.2), if_neg (fun w => z w.2)]
      have step2 : ¬ kn i = max a b → lk_tie kn a b i = lk_tie kn a b (i + 1) := by
        intro q
        funext j
        simp only [lk_tie]
        by_cases z : kn j = max a b
        · by_cases y : j < i
          · rw [if_pos ⟨y, z⟩, if_pos ⟨by omega, z⟩]
          · by_cases w : j = i
            · subst w; exact absurd z q
            · rw [if_neg (by omega), if_neg (by omega)]
        · rw [if_neg (fun w => z w.2), if_neg (fun w => z w.2)]
      refine slv_iload eX5_tie_16 rfl ?_
      refine slv_bipush (v := nI 28) eX5_tie_18 (by decide) ?_
      refine slv_icmp_geN eX5_tie_20 (by omega) (by omega) (fun h20 => absurd h20 (by omega)) (fun h20 => ?_)
      refine slv_aload_n eX5_tie_23 rfl ?_
      refine slv_getf eX5_tie_24 fX5_15 (by repeat (first | assumption | exact sl_up_eq | refine sl_up_ne (by first | decide | omega) ?_)) rfl ?_
      refine slv_iload eX5_tie_27 rfl ?_
      refine slv_ialdN eX5_tie_29 (by repeat (first | assumption | exact sl_up_eq | refine sl_up_ne (by first | decide | omega) ?_)) (by omega) (by decide) ?_
      refine slv_iload eX5_tie_30 rfl ?_
      refine slv_icmp_neN eX5_tie_32 (by omega) (by omega) (fun h32 => ?_) (fun h32 => ?_)
      · try rw [ld_u25]
        refine slv_iincN (lv' := [_, _, _, _, _, _]) eX5_tie_43 rfl (by decide) rfl ?_
        refine slv_goto eX5_tie_46 ?_
        rw [e1] at h32
        first | (rw [step1 h32]; exact ih (i + 1) (by omega) Q hQ) | (rw [step2 h32]; exact ih (i + 1) (by omega) Q hQ)
      · refine slv_aload_n eX5_tie_35 rfl ?_
        refine slv_getf eX5_tie_36 fX5_15 (by repeat (first | assumption | exact sl_up_eq | refine sl_up_ne (by first | decide | omega) ?_)) rfl ?_
        refine slv_iload eX5_tie_39 rfl ?_
        refine slv_iload_n eX5_tie_41 rfl ?_
        refine slv_iastN eX5_tie_42 (by repeat (first | assumption | exact sl_up_eq | refine sl_up_ne (by first | decide | omega) ?_)) (by omega) (by decide) ?_
        try rw [ld_u25]
        refine slv_iincN (lv' := [_, _, _, _, _, _]) eX5_tie_43 rfl (by decide) rfl ?_
        refine slv_goto eX5_tie_46 ?_
        rw [e1] at h32
        first | (rw [step1 h32]; exact ih (i + 1) (by omega) Q hQ) | (rw [step2 h32]; exact ih (i + 1) (by omega) Q hQ)
  rw [← ld_self h]
  have e0 : lk_tie kn a b 0 = kn := by funext j; rw [lk_tie, if_neg (by omega)]
  refine slv_iload_n eX5_tie_0 rfl ?_
  refine slv_iload_n eX5_tie_1 rfl ?_
  refine slv_minN eX5_tie_2 lX5_64 (by omega) (by omega) (by decide) (Nat.le_of_ble_eq_true rfl) ?_
  refine slv_istore_n (i := 3) (lv' := [_, _, _, _, _, _]) eX5_tie_5 rfl (by decide) rfl ?_
  refine slv_iload_n eX5_tie_6 rfl ?_
  refine slv_iload_n eX5_tie_7 rfl ?_
  refine slv_maxN eX5_tie_8 lX5_69 (by omega) (by omega) (by decide) (Nat.le_of_ble_eq_true rfl) ?_
  refine slv_istore (lv' := [_, _, _, _, _, _]) eX5_tie_11 (by decide) rfl ?_
  refine slv_iconst (v := nI 0) eX5_tie_13 (by decide) ?_
  refine slv_istore (lv' := [_, _, _, _, _, _]) eX5_tie_14 (by decide) rfl ?_
  have L := loop 28 0 (by omega)
  rw [e0] at L
  refine L _ ⟨rfl, ?_⟩
  rw [ld_self h]
theorem lk_tie_lt {kn : Nat → Nat} {a b m : Nat} (hk : ∀ p, p < 28 → kn p < 28) (ha : a < 28) (hb : b < 28) : ∀ p, p < 28 → lk_tie kn a b m p < 28 := by
  intro p hp
  simp only [lk_tie]
  split
  · omega
  · exact hk p hp
/-- knots tied for x and y -/
def lk_t1 (s : Nat → Int32) (x y : Nat) (f : Nat → Nat) : Nat → Nat := cond (decide (s (12 * x + y) &&& nI 2 = 0)) f (lk_tie f (f x) (f (16 + y)) 28)
def lk_t2 (s : Nat → Int32) (e x n i : Nat) (f : Nat → Nat) : Nat → Nat := sl_fo (fun y f => lk_t1 s x y f) n i f
def lk_kn (s : Nat → Int32) (e n i : Nat) (f : Nat → Nat) : Nat → Nat := sl_fo (fun x f => lk_t2 s e x (e + 1) 0 f) n i f
theorem lk_t1_lt {s : Nat → Int32} {x y : Nat} {f : Nat → Nat} (hx : x ≤ 11) (hy : y ≤ 11) (hf : ∀ p, p < 28 → f p < 28) : ∀ p, p < 28 → lk_t1 s x y f p < 28 := by
  simp only [lk_t1]
  cases decide (s (12 * x + y) &&& nI 2 = 0)
  · exact lk_tie_lt hf (hf x (by omega)) (hf (16 + y) (by omega))
  · exact hf
theorem lk_t2_lt {s : Nat → Int32} {e x : Nat} (hx : x ≤ 11) (n : Nat) : ∀ (i : Nat) (f : Nat → Nat), i + n ≤ 12 → (∀ p, p < 28 → f p < 28) → ∀ p, p < 28 → lk_t2 s e x n i f p < 28 := by
  induction n with
  | zero => intro i f _ hf; exact hf
  | succ n ih => intro i f hi hf; exact ih (i + 1) _ (by omega) (lk_t1_lt hx (by omega) hf)
set_option maxRecDepth 100000 in
theorem c_X5_tieKnots {l t s : Nat → Int32} {e0 : Nat} (hR : rl_at e0 l t s M) (h : ld_at rn e rk kn ar re nu ba M) (he : e ≤ 11) (hk : ∀ p, p < 28 → kn p < 28) : sl_R YX5_tieKnots 2 [.ref 23, .ref 19] M none (ld_set rn e rk (lk_kn s e (e + 1) 0 kn) ar re nu ba M) := by
  have hR' : ∀ kn : Nat → Nat, rl_at e0 l t s (ld_set rn e rk kn ar re nu ba M) := fun kn => ld_rl hR
  refine sl_T.of_V (lv := [_, _, _, _]) (by decide) rfl (Nat.le_of_ble_eq_true rfl) ?_
  have inner : ∀ (n y x : Nat) (f : Nat → Nat), y + n = e + 1 → x ≤ e → (∀ p, p < 28 → f p < 28) → ∀ Q : Option Value → sl_M → Prop, sl_V YX5_tieKnots none 2 0 0 Q 56 [some (.ref 23), some (.ref 19), some (.int (nI x)), some (.int (nI (e + 1)))] [] (ld_set rn e rk (lk_t2 s e x n y f) ar re nu ba M) → sl_V YX5_tieKnots none 2 0 0 Q 12 [some (.ref 23), some (.ref 19), some (.int (nI x)), some (.int (nI y))] [] (ld_set rn e rk f ar re nu ba M) := by
    intro n
    induction n with
    | zero =>
      intro y x f hy hx hf Q hk
      have e3 : y = e + 1 := by omega
      subst e3
      refine slv_iload_n eX5_tieKnots_12 rfl ?_
      refine slv_aload_n eX5_tieKnots_13 rfl ?_
      refine slv_getf eX5_tieKnots_14 fX5_36 (by repeat (first | assumption | exact sl_up_eq | refine sl_up_ne (by first | decide | omega) ?_)) rfl ?_
      refine slv_icmp_gtN eX5_tieKnots_17 (by omega) (by omega) (fun h17 => ?_) (fun h17 => absurd h17 (by omega))
      exact hk
    | succ n ih =>
      intro y x f hy hx hf Q hk
      obtain ⟨a19, a20, a21, a22⟩ := id hR
      have f1 := hf x (by omega)
      have f2 := hf (16 + y) (by omega)
      refine slv_iload_n eX5_tieKnots_12 rfl ?_
      refine slv_aload_n eX5_tieKnots_13 rfl ?_
      refine slv_getf eX5_tieKnots_14 fX5_36 (by repeat (first | assumption | exact sl_up_eq | refine sl_up_ne (by first | decide | omega) ?_)) rfl ?_
      refine slv_icmp_gtN eX5_tieKnots_17 (by omega) (by omega) (fun h17 => absurd h17 (by omega)) (fun h17 => ?_)
      refine slv_aload_n eX5_tieKnots_20 rfl ?_
      refine slv_iload_n eX5_tieKnots_21 rfl ?_
      refine slv_iload_n eX5_tieKnots_22 rfl ?_
      refine slv_rV (As := [_, _]) eX5_tieKnots_23 lX5_56 rfl rfl (by repeat (first | assumption | exact sl_up_eq | refine sl_up_ne (by first | decide | omega) ?_)) rfl (c_X10_between (hR' _) (by omega) (by omega)) (by decide) (Nat.le_of_ble_eq_true rfl) ?_
      refine slv_iconst (v := nI 2) eX5_tieKnots_26 (by decide) ?_
      refine slv_iand eX5_tieKnots_27 ?_
      refine slv_if_eq eX5_tieKnots_28 (fun h28 => ?_) (fun h28 => ?_)
      · try rw [ld_ss]
        refine slv_iincN (lv' := [_, _, _, _]) eX5_tieKnots_50 rfl (by decide) rfl ?_
        refine slv_goto eX5_tieKnots_53 ?_
        first | (have q : lk_t1 s x y f = f := (by rw [lk_t1, decide_eq_true h28]; rfl); refine ih (y + 1) x f (by omega) hx hf Q ?_; simp only [lk_t2, sl_fo, q] at hk; exact hk) | (have q : lk_t1 s x y f = lk_tie f (f x) (f (16 + y)) 28 := (by rw [lk_t1, decide_eq_false h28]; rfl); refine ih (y + 1) x _ (by omega) hx (lk_tie_lt hf f1 f2) Q ?_; simp only [lk_t2, sl_fo, q] at hk; exact hk)
      · refine slv_aload_n eX5_tieKnots_31 rfl ?_
        refine slv_aload_n eX5_tieKnots_32 rfl ?_
        refine slv_getf eX5_tieKnots_33 fX5_15 (by repeat (first | assumption | exact sl_up_eq | refine sl_up_ne (by first | decide | omega) ?_)) rfl ?_
        refine slv_iload_n eX5_tieKnots_36 rfl ?_
        refine slv_ialdN eX5_tieKnots_37 (by repeat (first | assumption | exact sl_up_eq | refine sl_up_ne (by first | decide | omega) ?_)) (by omega) (by decide) ?_
        refine slv_aload_n eX5_tieKnots_38 rfl ?_
        refine slv_getf eX5_tieKnots_39 fX5_15 (by repeat (first | assumption | exact sl_up_eq | refine sl_up_ne (by first | decide | omega) ?_)) rfl ?_
        refine slv_bipush (v := nI 16) eX5_tieKnots_42 (by decide) ?_
        refine slv_iload_n eX5_tieKnots_44 rfl ?_
        refine slv_iaddN eX5_tieKnots_45 ?_
        refine slv_ialdN eX5_tieKnots_46 (by repeat (first | assumption | exact sl_up_eq | refine sl_up_ne (by first | decide | omega) ?_)) (by omega) (by decide) ?_
        refine slv_rV (As := [_, _]) eX5_tieKnots_47 lX5_60 rfl rfl (by repeat (first | assumption | exact sl_up_eq | refine sl_up_ne (by first | decide | omega) ?_)) rfl (c_X5_tie ld_of hf f1 f2) (by decide) (Nat.le_of_ble_eq_true rfl) ?_
        try rw [ld_ss]
        refine slv_iincN (lv' := [_, _, _, _]) eX5_tieKnots_50 rfl (by decide) rfl ?_
        refine slv_goto eX5_tieKnots_53 ?_
        first | (have q : lk_t1 s x y f = f := (by rw [lk_t1, decide_eq_true h28]; rfl); refine ih (y + 1) x f (by omega) hx hf Q ?_; simp only [lk_t2, sl_fo, q] at hk; exact hk) | (have q : lk_t1 s x y f = lk_tie f (f x) (f (16 + y)) 28 := (by rw [lk_t1, decide_eq_false h28]; rfl); refine ih (y + 1) x _ (by omega) hx (lk_tie_lt hf f1 f2) Q ?_; simp only [lk_t2, sl_fo, q] at hk; exact hk)
  have outer : ∀ (n x : Nat) (f : Nat → Nat) (v3 : Option Value), x + n = e + 1 → (∀ p, p < 28 → f p < 28) → ∀ Q : Option Value → sl_M → Prop, Q none (ld_set rn e rk (lk_kn s e n x f) ar re nu ba M) → sl_V YX5_tieKnots none 2 0 0 Q 2 [some (.ref 23), some (.ref 19), some (.int (nI x)), v3] [] (ld_set rn e rk f ar re nu ba M) := by
    intro n
    induction n with
    | zero =>
      intro x f v3 hx hf Q hQ
      refine slv_iload_n eX5_tieKnots_2 rfl ?_
      refine slv_aload_n eX5_tieKnots_3 rfl ?_
      refine slv_getf eX5_tieKnots_4 fX5_36 (by repeat (first | assumption | exact sl_up_eq | refine sl_up_ne (by first | decide | omega) ?_)) rfl ?_
      refine slv_icmp_gtN eX5_tieKnots_7 (by omega) (by omega) (fun h7 => ?_) (fun h7 => absurd h7 (by omega))
      refine slv_vret eX5_tieKnots_62 rfl ?_
      exact hQ
    | succ n ih =>
      intro x f v3 hx hf Q hQ
      refine slv_iload_n eX5_tieKnots_2 rfl ?_
      refine slv_aload_n eX5_tieKnots_3 rfl ?_
      refine slv_getf eX5_tieKnots_4 fX5_36 (by repeat (first | assumption | exact sl_up_eq | refine sl_up_ne (by first | decide | omega) ?_)) rfl ?_
      refine slv_icmp_gtN eX5_tieKnots_7 (by omega) (by omega) (fun h7 => absurd h7 (by omega)) (fun h7 => ?_)
      refine slv_iconst (v := nI 0) eX5_tieKnots_10 (by decide) ?_
      refine slv_istore_n (i := 3) (lv' := [_, _, _, _]) eX5_tieKnots_11 rfl (by decide) rfl ?_
      refine inner (e + 1) 0 x f (by omega) (by omega) hf Q ?_
      refine slv_iincN (lv' := [_, _, _, _]) eX5_tieKnots_56 rfl (by decide) rfl ?_
      refine slv_goto eX5_tieKnots_59 ?_
      exact ih (x + 1) _ _ (by omega) (lk_t2_lt (by omega) (e + 1) 0 f (by omega) hf) Q hQ
  rw [← ld_self h]
  refine slv_iconst (v := nI 0) eX5_tieKnots_0 (by decide) ?_
  refine slv_istore_n (i := 2) (lv' := [_, _, _, _]) eX5_tieKnots_1 rfl (by decide) rfl ?_
  refine outer (e + 1) 0 kn _ (by omega) hk _ ⟨rfl, ?_⟩
  rw [ld_self h]
/-- arcs of x and y -/
def lk_a1 (s : Nat → Int32) (kn : Nat → Nat) (x y : Nat) (a : Nat → Int32) : Nat → Int32 := cond (decide (s (12 * x + y) &&& nI 1 = 0)) a (sl_u a (kn (16 + y)) (a (kn (16 + y)) ||| nI 1 <<< (nI (kn x) &&& 31)))
def lk_a4 (s : Nat → Int32) (kn : Nat → Nat) (x y : Nat) (a : Nat → Int32) : Nat → Int32 := cond (decide (s (12 * x + y) &&& nI 4 = 0)) a (sl_u a (kn x) (a (kn x) ||| nI 1 <<< (nI (kn (16 + y)) &&& 31)))
def lk_aa (s : Nat → Int32) (kn : Nat → Nat) (x n i : Nat) (a : Nat → Int32) : Nat → Int32 := sl_fo (fun y a => lk_a4 s kn x y (lk_a1 s kn x y a)) n i a
def lk_ar (s : Nat → Int32) (kn : Nat → Nat) (e n i : Nat) (a : Nat → Int32) : Nat → Int32 := sl_fo (fun x a => lk_aa s kn x (e + 1) 0 a) n i a
set_option maxRecDepth 100000 in
theorem c_X5_drawArcs {l t s : Nat → Int32} {e0 : Nat} (hR : rl_at e0 l t s M) (h : ld_at rn e rk kn ar re nu ba M) (he : e ≤ 11) (hk : ∀ p, p < 28 → kn p < 28) : sl_R YX5_drawArcs 1 [.ref 23, .ref 19] M none (ld_set rn e rk kn (lk_ar s kn e (e + 1) 0 ar) re nu ba M) := by
  have hR' : ∀ ar : Nat → Int32, rl_at e0 l t s (ld_set rn e rk kn ar re nu ba M) := fun ar => ld_rl hR
  refine sl_T.of_V (lv := [_, _, _, _, _, _, _]) (by decide) rfl (Nat.le_of_ble_eq_true rfl) ?_
  have inner : ∀ (n y x : Nat) (f : Nat → Int32) (v4 v5 v6 : Option Value), y + n = e + 1 → x ≤ e → ∀ Q : Option Value → sl_M → Prop, (∀ v4 v5 v6, sl_V YX5_drawArcs none 1 0 0 Q 95 [some (.ref 23), some (.ref 19), some (.int (nI x)), some (.int (nI (e + 1))), v4, v5, v6] [] (ld_set rn e rk kn (lk_aa s kn x n y f) re nu ba M)) → sl_V YX5_drawArcs none 1 0 0 Q 12 [some (.ref 23), some (.ref 19), some (.int (nI x)), some (.int (nI y)), v4, v5, v6] [] (ld_set rn e rk kn f re nu ba M) := by
    intro n
    induction n with
    | zero =>
      intro y x f v4 v5 v6 hy hx Q hk
      have e3 : y = e + 1 := by omega
      subst e3
      refine slv_iload_n eX5_drawArcs_12 rfl ?_
      refine slv_aload_n eX5_drawArcs_13 rfl ?_
      refine slv_getf eX5_drawArcs_14 fX5_36 (by repeat (first | assumption | exact sl_up_eq | refine sl_up_ne (by first | decide | omega) ?_)) rfl ?_
      refine slv_icmp_gtN eX5_drawArcs_17 (by omega) (by omega) (fun h17 => ?_) (fun h17 => absurd h17 (by omega))
      exact hk _ _ _
    | succ n ih =>
      intro y x f v4 v5 v6 hy hx Q hk
      obtain ⟨a19, a20, a21, a22⟩ := id hR
      rename (∀ p, p < 28 → kn p < 28) => hkn
      have f1 := hkn x (by omega)
      have f2 := hkn (16 + y) (by omega)
      have fin : ∀ (f' : Nat → Int32) (v4 v5 v6 : Option Value), f' = lk_a4 s kn x y (lk_a1 s kn x y f) → sl_V YX5_drawArcs none 1 0 0 Q 12 [some (.ref 23), some (.ref 19), some (.int (nI x)), some (.int (nI (y + 1))), v4, v5, v6] [] (ld_set rn e rk kn f' re nu ba M) := by
        intro f' v4 v5 v6 hf'
        subst hf'
        exact ih (y + 1) x _ v4 v5 v6 (by omega) hx Q hk
      refine slv_iload_n eX5_drawArcs_12 rfl ?_
      refine slv_aload_n eX5_drawArcs_13 rfl ?_
      refine slv_getf eX5_drawArcs_14 fX5_36 (by repeat (first | assumption | exact sl_up_eq | refine sl_up_ne (by first | decide | omega) ?_)) rfl ?_
      refine slv_icmp_gtN eX5_drawArcs_17 (by omega) (by omega) (fun h17 => absurd h17 (by omega)) (fun h17 => ?_)
      refine slv_aload_n eX5_drawArcs_20 rfl ?_
      refine slv_getf eX5_drawArcs_21 fX5_15 (by repeat (first | assumption | exact sl_up_eq | refine sl_up_ne (by first | decide | omega) ?_)) rfl ?_
      refine slv_iload_n eX5_drawArcs_24 rfl ?_
      refine slv_ialdN eX5_drawArcs_25 (by repeat (first | assumption | exact sl_up_eq | refine sl_up_ne (by first | decide | omega) ?_)) (by omega) (by decide) ?_
      refine slv_istore (lv' := [_, _, _, _, _, _, _]) eX5_drawArcs_26 (by decide) rfl ?_
      refine slv_aload_n eX5_drawArcs_28 rfl ?_
      refine slv_getf eX5_drawArcs_29 fX5_15 (by repeat (first | assumption | exact sl_up_eq | refine sl_up_ne (by first | decide | omega) ?_)) rfl ?_
      refine slv_bipush (v := nI 16) eX5_drawArcs_32 (by decide) ?_
      refine slv_iload_n eX5_drawArcs_34 rfl ?_
      refine slv_iaddN eX5_drawArcs_35 ?_
      refine slv_ialdN eX5_drawArcs_36 (by repeat (first | assumption | exact sl_up_eq | refine sl_up_ne (by first | decide | omega) ?_)) (by omega) (by decide) ?_
      refine slv_istore (lv' := [_, _, _, _, _, _, _]) eX5_drawArcs_37 (by decide) rfl ?_
      refine slv_aload_n eX5_drawArcs_39 rfl ?_
      refine slv_iload_n eX5_drawArcs_40 rfl ?_
      refine slv_iload_n eX5_drawArcs_41 rfl ?_
      refine slv_rV (As := [_, _]) eX5_drawArcs_42 lX5_56 rfl rfl (by repeat (first | assumption | exact sl_up_eq | refine sl_up_ne (by first | decide | omega) ?_)) rfl (c_X10_between (hR' _) (by omega) (by omega)) (by decide) (Nat.le_of_ble_eq_true rfl) ?_
      refine slv_istore (lv' := [_, _, _, _, _, _, _]) eX5_drawArcs_45 (by decide) rfl ?_
      refine slv_iload eX5_drawArcs_47 rfl ?_
      refine slv_iconst (v := nI 1) eX5_drawArcs_49 (by decide) ?_
      refine slv_iand eX5_drawArcs_50 ?_
      refine slv_if_eq eX5_drawArcs_51 (fun h51 => ?_) (fun h51 => ?_)
      · try rw [ld_u26]
        refine slv_iload eX5_drawArcs_68 rfl ?_
        refine slv_iconst (v := nI 4) eX5_drawArcs_70 (by decide) ?_
        refine slv_iand eX5_drawArcs_71 ?_
        refine slv_if_eq eX5_drawArcs_72 (fun h72 => ?_) (fun h72 => ?_)
        · try rw [ld_u26]
          refine slv_iincN (lv' := [_, _, _, _, _, _, _]) eX5_drawArcs_89 rfl (by decide) rfl ?_
          refine slv_goto eX5_drawArcs_92 ?_
          refine fin _ _ _ _ ?_
          first | (rw [lk_a4, lk_a1, decide_eq_true h51, decide_eq_true h72]; rfl) | (rw [lk_a4, lk_a1, decide_eq_true h51, decide_eq_false h72]; rfl) | (rw [lk_a4, lk_a1, decide_eq_false h51, decide_eq_true h72]; rfl) | (rw [lk_a4, lk_a1, decide_eq_false h51, decide_eq_false h72]; rfl)
        · refine slv_aload_n eX5_drawArcs_75 rfl ?_
          refine slv_getf eX5_drawArcs_76 fX5_18 (by repeat (first | assumption | exact sl_up_eq | refine sl_up_ne (by first | decide | omega) ?_)) rfl ?_
          refine slv_iload eX5_drawArcs_79 rfl ?_
          refine slv_dup2 eX5_drawArcs_81 rfl rfl ?_
          refine slv_ialdN eX5_drawArcs_82 (by repeat (first | assumption | exact sl_up_eq | refine sl_up_ne (by first | decide | omega) ?_)) (by omega) (by decide) ?_
          refine slv_iconst (v := nI 1) eX5_drawArcs_83 (by decide) ?_
          refine slv_iload eX5_drawArcs_84 rfl ?_
          refine slv_ishl eX5_drawArcs_86 ?_
          refine slv_ior eX5_drawArcs_87 ?_
          refine slv_iastI eX5_drawArcs_88 (by repeat (first | assumption | exact sl_up_eq | refine sl_up_ne (by first | decide | omega) ?_)) (by omega) (by decide) ?_
          try rw [ld_u26]
          refine slv_iincN (lv' := [_, _, _, _, _, _, _]) eX5_drawArcs_89 rfl (by decide) rfl ?_
          refine slv_goto eX5_drawArcs_92 ?_
          refine fin _ _ _ _ ?_
          first | (rw [lk_a4, lk_a1, decide_eq_true h51, decide_eq_true h72]; rfl) | (rw [lk_a4, lk_a1, decide_eq_true h51, decide_eq_false h72]; rfl) | (rw [lk_a4, lk_a1, decide_eq_false h51, decide_eq_true h72]; rfl) | (rw [lk_a4, lk_a1, decide_eq_false h51, decide_eq_false h72]; rfl)
      · refine slv_aload_n eX5_drawArcs_54 rfl ?_
        refine slv_getf eX5_drawArcs_55 fX5_18 (by repeat (first | assumption | exact sl_up_eq | refine sl_up_ne (by first | decide | omega) ?_)) rfl ?_
        refine slv_iload eX5_drawArcs_58 rfl ?_
        refine slv_dup2 eX5_drawArcs_60 rfl rfl ?_
        refine slv_ialdN eX5_drawArcs_61 (by repeat (first | assumption | exact sl_up_eq | refine sl_up_ne (by first | decide | omega) ?_)) (by omega) (by decide) ?_
        refine slv_iconst (v := nI 1) eX5_drawArcs_62 (by decide) ?_
        refine slv_iload eX5_drawArcs_63 rfl ?_
        refine slv_ishl eX5_drawArcs_65 ?_
        refine slv_ior eX5_drawArcs_66 ?_
        refine slv_iastI eX5_drawArcs_67 (by repeat (first | assumption | exact sl_up_eq | refine sl_up_ne (by first | decide | omega) ?_)) (by omega) (by decide) ?_
        try rw [ld_u26]
        refine slv_iload eX5_drawArcs_68 rfl ?_
        refine slv_iconst (v := nI 4) eX5_drawArcs_70 (by decide) ?_
        refine slv_iand eX5_drawArcs_71 ?_
        refine slv_if_eq eX5_drawArcs_72 (fun h72 => ?_) (fun h72 => ?_)
        · try rw [ld_u26]
          refine slv_iincN (lv' := [_, _, _, _, _, _, _]) eX5_drawArcs_89 rfl (by decide) rfl ?_
          refine slv_goto eX5_drawArcs_92 ?_
          refine fin _ _ _ _ ?_
          first | (rw [lk_a4, lk_a1, decide_eq_true h51, decide_eq_true h72]; rfl) | (rw [lk_a4, lk_a1, decide_eq_true h51, decide_eq_false h72]; rfl) | (rw [lk_a4, lk_a1, decide_eq_false h51, decide_eq_true h72]; rfl) | (rw [lk_a4, lk_a1, decide_eq_false h51, decide_eq_false h72]; rfl)
        · refine slv_aload_n eX5_drawArcs_75 rfl ?_
          refine slv_getf eX5_drawArcs_76 fX5_18 (by repeat (first | assumption | exact sl_up_eq | refine sl_up_ne (by first | decide | omega) ?_)) rfl ?_
          refine slv_iload eX5_drawArcs_79 rfl ?_
          refine slv_dup2 eX5_drawArcs_81 rfl rfl ?_
          refine slv_ialdN eX5_drawArcs_82 (by repeat (first | assumption | exact sl_up_eq | refine sl_up_ne (by first | decide | omega) ?_)) (by omega) (by decide) ?_
          refine slv_iconst (v := nI 1) eX5_drawArcs_83 (by decide) ?_
          refine slv_iload eX5_drawArcs_84 rfl ?_
          refine slv_ishl eX5_drawArcs_86 ?_
          refine slv_ior eX5_drawArcs_87 ?_
          refine slv_iastI eX5_drawArcs_88 (by repeat (first | assumption | exact sl_up_eq | refine sl_up_ne (by first | decide | omega) ?_)) (by omega) (by decide) ?_
          try rw [ld_u26]
          refine slv_iincN (lv' := [_, _, _, _, _, _, _]) eX5_drawArcs_89 rfl (by decide) rfl ?_
          refine slv_goto eX5_drawArcs_92 ?_
          refine fin _ _ _ _ ?_
          first | (rw [lk_a4, lk_a1, decide_eq_true h51, decide_eq_true h72]; rfl) | (rw [lk_a4, lk_a1, decide_eq_true h51, decide_eq_false h72]; rfl) | (rw [lk_a4, lk_a1, decide_eq_false h51, decide_eq_true h72]; rfl) | (rw [lk_a4, lk_a1, decide_eq_false h51, decide_eq_false h72]; rfl)
  have outer : ∀ (n x : Nat) (f : Nat → Int32) (v3 v4 v5 v6 : Option Value), x + n = e + 1 → ∀ Q : Option Value → sl_M → Prop, Q none (ld_set rn e rk kn (lk_ar s kn e n x f) re nu ba M) → sl_V YX5_drawArcs none 1 0 0 Q 2 [some (.ref 23), some (.ref 19), some (.int (nI x)), v3, v4, v5, v6] [] (ld_set rn e rk kn f re nu ba M) := by
    intro n
    induction n with
    | zero =>
      intro x f v3 v4 v5 v6 hx Q hQ
      refine slv_iload_n eX5_drawArcs_2 rfl ?_
      refine slv_aload_n eX5_drawArcs_3 rfl ?_
      refine slv_getf eX5_drawArcs_4 fX5_36 (by repeat (first | assumption | exact sl_up_eq | refine sl_up_ne (by first | decide | omega) ?_)) rfl ?_
      refine slv_icmp_gtN eX5_drawArcs_7 (by omega) (by omega) (fun h7 => ?_) (fun h7 => absurd h7 (by omega))
      refine slv_vret eX5_drawArcs_101 rfl ?_
      exact hQ
    | succ n ih =>
      intro x f v3 v4 v5 v6 hx Q hQ
      refine slv_iload_n eX5_drawArcs_2 rfl ?_
      refine slv_aload_n eX5_drawArcs_3 rfl ?_
      refine slv_getf eX5_drawArcs_4 fX5_36 (by repeat (first | assumption | exact sl_up_eq | refine sl_up_ne (by first | decide | omega) ?_)) rfl ?_
      refine slv_icmp_gtN eX5_drawArcs_7 (by omega) (by omega) (fun h7 => absurd h7 (by omega)) (fun h7 => ?_)
      refine slv_iconst (v := nI 0) eX5_drawArcs_10 (by decide) ?_
      refine slv_istore_n (i := 3) (lv' := [_, _, _, _, _, _, _]) eX5_drawArcs_11 rfl (by decide) rfl ?_
      refine inner (e + 1) 0 x f _ _ _ (by omega) (by omega) Q (fun v4 v5 v6 => ?_)
      refine slv_iincN (lv' := [_, _, _, _, _, _, _]) eX5_drawArcs_95 rfl (by decide) rfl ?_
      refine slv_goto eX5_drawArcs_98 ?_
      exact ih (x + 1) _ _ _ _ _ (by omega) Q hQ
  rw [← ld_self h]
  refine slv_iconst (v := nI 0) eX5_drawArcs_0 (by decide) ?_
  refine slv_istore_n (i := 2) (lv' := [_, _, _, _, _, _, _]) eX5_drawArcs_1 rfl (by decide) rfl ?_
  refine outer (e + 1) 0 ar _ _ _ _ (by omega) _ ⟨rfl, ?_⟩
  rw [ld_self h]
end LAD
