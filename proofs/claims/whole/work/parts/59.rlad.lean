/-! the reference: what it answers of numbers, knots and the ring -/
/-- the reference holds ring rk of rn knots, knots kn, numbers nu -/
def rf_K (rn : Nat) (rk kn nu : Nat → Nat) (v : Nat → Int32) (a : Nat → Nat → Int32) : Prop :=
  v 44 = nI rn ∧ (∀ p, p < 28 → a 39 p = nI (kn p)) ∧ (∀ i, i < rn → a 45 i = nI (rk i)) ∧ (rn = 0 → ∀ p, p < 28 → a 40 p = nI (nu p)) ∧ rn ≤ 28 ∧ (∀ p, p < 28 → kn p < 28) ∧ ∀ p, p < 28 → nu p < 1000000
theorem nI_rem {p m : Nat} (hp : p < 2147483648) (hm : m < 2147483648) : nI p - nI p / nI m * nI m = nI (p % m) := by
  have h1 := Nat.div_add_mod p m
  have h2 : p / m * m ≤ p := Nat.div_mul_le_self p m
  rw [nI_div hp hm, nI_mul, nI_sub h2]
  congr 1
  rw [Nat.mul_comm] at h1
  omega
def rf_hg (e : Nat) (f : Nat → Nat) (n i m : Nat) : Nat := sl_fo (fun p m => cond (decide (p % 16 ≤ e)) (max m (f p)) m) n i m
theorem rf_hg_le {e : Nat} {f : Nat → Nat} (n : Nat) : ∀ i m c, rf_hg e f n i m ≤ c ↔ m ≤ c ∧ ∀ p, i ≤ p → p < i + n → p % 16 ≤ e → f p ≤ c := by
  induction n with
  | zero => intro i m c; exact ⟨fun h => ⟨h, fun p h1 h2 => by omega⟩, fun h => h.1⟩
  | succ n ih =>
    intro i m c
    show rf_hg e f n (i + 1) (cond (decide (i % 16 ≤ e)) (max m (f i)) m) ≤ c ↔ _
    rw [ih (i + 1)]
    by_cases h : i % 16 ≤ e
    · rw [decide_eq_true h, cond_true, Nat.max_le]
      constructor
      · rintro ⟨⟨h1, h2⟩, h3⟩
        refine ⟨h1, fun p g1 g2 g3 => ?_⟩
        rcases Nat.eq_or_lt_of_le g1 with q | q
        · subst q; exact h2
        · exact h3 p q (by omega) g3
      · rintro ⟨h1, h2⟩
        exact ⟨⟨h1, h2 i (Nat.le_refl i) (by omega) h⟩, fun p g1 g2 g3 => h2 p (by omega) (by omega) g3⟩
    · rw [decide_eq_false h, cond_false]
      constructor
      · rintro ⟨h1, h2⟩
        refine ⟨h1, fun p g1 g2 g3 => ?_⟩
        rcases Nat.eq_or_lt_of_le g1 with q | q
        · subst q; exact absurd g3 h
        · exact h2 p q (by omega) g3
      · rintro ⟨h1, h2⟩
        exact ⟨h1, fun p g1 g2 g3 => h2 p (by omega) (by omega) g3⟩
theorem lk_gt_le {nu kn : Nat → Nat} (n : Nat) : ∀ i m c, lk_gt nu kn n i m ≤ c ↔ m ≤ c ∧ ∀ p, i ≤ p → p < i + n → nu (kn p) ≤ c ∧ nu (kn (16 + p)) ≤ c := by
  induction n with
  | zero => intro i m c; exact ⟨fun h => ⟨h, fun p h1 h2 => by omega⟩, fun h => h.1⟩
  | succ n ih =>
    intro i m c
    show lk_gt nu kn n (i + 1) (max m (max (nu (kn i)) (nu (kn (16 + i))))) ≤ c ↔ _
    rw [ih (i + 1), Nat.max_le, Nat.max_le]
    constructor
    · rintro ⟨⟨h1, h2⟩, h3⟩
      refine ⟨h1, fun p g1 g2 => ?_⟩
      rcases Nat.eq_or_lt_of_le g1 with q | q
      · subst q; exact h2
      · exact h3 p q (by omega)
    · rintro ⟨h1, h2⟩
      exact ⟨⟨h1, h2 i (Nat.le_refl i) (by omega)⟩, fun p g1 g2 => h2 p (by omega) (by omega)⟩
theorem rf_hg_eq {e : Nat} (he : e ≤ 11) {nu kn : Nat → Nat} : rf_hg e (fun p => nu (kn p)) 32 0 0 = lk_gt nu kn (e + 1) 0 0 := by
  apply Nat.le_antisymm
  · rw [rf_hg_le]
    have h := (lk_gt_le (nu := nu) (kn := kn) (e + 1) 0 0 (lk_gt nu kn (e + 1) 0 0)).mp (Nat.le_refl _)
    refine ⟨Nat.zero_le _, fun p _ h2 h3 => ?_⟩
    rcases Nat.lt_or_ge p 16 with q | q
    · exact (h.2 p (by omega) (by omega)).1
    · have := (h.2 (p - 16) (by omega) (by omega)).2
      rwa [show 16 + (p - 16) = p by omega] at this
  · rw [lk_gt_le]
    have h := (rf_hg_le (e := e) (f := fun p => nu (kn p)) 32 0 0 (rf_hg e (fun p => nu (kn p)) 32 0 0)).mp (Nat.le_refl _)
    exact ⟨Nat.zero_le _, fun p _ h2 => ⟨h.2 p (by omega) (by omega) (by omega), h.2 (16 + p) (by omega) (by omega) (by omega)⟩⟩
theorem lk_kc_eq {kn : Nat → Nat} (n : Nat) : ∀ i m, lk_kc kn n i m = m + sl_ct (fun t => decide (kn t = t)) n i + sl_ct (fun t => decide (kn (16 + t) = 16 + t)) n i := by
  induction n with
  | zero => intro i m; rfl
  | succ n ih =>
    intro i m
    show lk_kc kn n (i + 1) (m + (cond (decide (kn i = i)) 1 0) + (cond (decide (kn (16 + i) = 16 + i)) 1 0)) = _
    rw [ih (i + 1)]
    simp only [sl_ct]
    omega
theorem rf_kn_eq {e : Nat} (he : e ≤ 11) {kn : Nat → Nat} : sl_ct (fun p => decide (p % 16 ≤ e) && decide (kn p = p)) 32 0 = lk_kc kn (e + 1) 0 0 := by
  have h0 := sl_ct_app (fun p => decide (p % 16 ≤ e) && decide (kn p = p)) 16 16 0
  have h1 := sl_ct_app (fun p => decide (p % 16 ≤ e) && decide (kn p = p)) (e + 1) (15 - e) 0
  have h2 := sl_ct_sh (fun p => decide (p % 16 ≤ e) && decide (kn p = p)) 16 16 0
  have h3 := sl_ct_app (fun y => decide ((16 + y) % 16 ≤ e) && decide (kn (16 + y) = 16 + y)) (e + 1) (15 - e) 0
  rw [show e + 1 + (15 - e) = 16 by omega, sl_ct_zero (15 - e) (0 + (e + 1)) (fun k g1 g2 => by rw [decide_eq_false (by omega)]; rfl), sl_ct_congr (p' := fun t => decide (kn t = t)) (e + 1) 0 (fun k g1 g2 => by rw [decide_eq_true (by omega)]; rfl)] at h1
  rw [show e + 1 + (15 - e) = 16 by omega, sl_ct_zero (15 - e) (0 + (e + 1)) (fun k g1 g2 => by rw [decide_eq_false (by omega)]; rfl), sl_ct_congr (p' := fun t => decide (kn (16 + t) = 16 + t)) (e + 1) 0 (fun k g1 g2 => by rw [decide_eq_true (by omega)]; rfl)] at h3
  rw [lk_kc_eq]
  rw [show 0 + 16 = 16 + 0 by omega, h2, h1, h3] at h0
  rw [show 32 = 16 + 16 by omega, h0]
  omega
section RLD
variable {v : Nat → Int32} {w : Int64} {a : Nat → Nat → Int32} {nm : Nat → Int64} {M : sl_M} {g : sg_T} {sn : Bool} {l t s : Nat → Int32} {rn : Nat} {rk kn nu : Nat → Nat}
set_option maxRecDepth 100000 in
theorem c_X12_isPoint {e : Nat} (he : e ≤ 11) (h16 : v 16 = nI e) {p : Nat} (hp : p < 32) : sl_R YX12_isPoint 0 [.ref 68, .int (nI p)] (rf_S v w a nm M) (some (.int (sl_bi (decide (p % 16 ≤ e))))) (rf_S v w a nm M) := by
  refine sl_T.of_V (lv := [_, _]) (by decide) rfl (Nat.le_of_ble_eq_true rfl) ?_
  refine slv_iload_n eX12_isPoint_0 rfl ?_
  refine slv_bipush (v := nI 16) eX12_isPoint_1 (by decide) ?_
  refine slv_irem eX12_isPoint_3 (by decide) ?_
  refine slv_top (w := .int (nI (p % 16))) (by rw [nI_rem (by omega) (by omega)]) ?_
  refine slv_aload_n eX12_isPoint_4 rfl ?_
  refine slr_gi eX12_isPoint_5 fX12_324 rfl (by repeat (first | exact sl_u_eq | assumption | apply rf_ne (by decide) | exact rfl)) ?_
  refine slv_icmp_gtN eX12_isPoint_8 (by omega) (by omega) (fun h8 => ?_) (fun h8 => ?_)
  · refine slv_iconst (v := nI 0) eX12_isPoint_15 (by decide) ?_
    refine slv_zret eX12_isPoint_16 rfl rfl ?_
    exact ⟨by first | (rw [decide_eq_true h8]; rfl) | (rw [decide_eq_false (Nat.not_le.mpr h8)]; rfl), rfl⟩
  · refine slv_iconst (v := nI 1) eX12_isPoint_11 (by decide) ?_
    refine slv_goto eX12_isPoint_12 ?_
    refine slv_zret eX12_isPoint_16 rfl rfl ?_
    exact ⟨by first | (rw [decide_eq_true h8]; rfl) | (rw [decide_eq_false (Nat.not_le.mpr h8)]; rfl), rfl⟩
set_option maxRecDepth 100000 in
theorem c_X12_hasNumbers (hn : rn < 1000) (h44 : v 44 = nI rn) : sl_R YX12_hasNumbers 0 [.ref 68] (rf_S v w a nm M) (some (.int (sl_bi (decide (rn = 0))))) (rf_S v w a nm M) := by
  refine sl_T.of_V (lv := [_]) (by decide) rfl (Nat.le_of_ble_eq_true rfl) ?_
  refine slv_aload_n eX12_hasNumbers_0 rfl ?_
  refine slr_gi eX12_hasNumbers_1 fX12_396 rfl (by repeat (first | exact sl_u_eq | assumption | apply rf_ne (by decide) | exact rfl)) ?_
  refine slv_if_neN eX12_hasNumbers_4 (by omega) (fun h4 => ?_) (fun h4 => ?_)
  · refine slv_iconst (v := nI 0) eX12_hasNumbers_11 (by decide) ?_
    refine slv_zret eX12_hasNumbers_12 rfl rfl ?_
    exact ⟨by first | (rw [decide_eq_true h4]; rfl) | (rw [decide_eq_false h4]; rfl), rfl⟩
  · refine slv_iconst (v := nI 1) eX12_hasNumbers_7 (by decide) ?_
    refine slv_goto eX12_hasNumbers_8 ?_
    refine slv_zret eX12_hasNumbers_12 rfl rfl ?_
    exact ⟨by first | (rw [decide_eq_true h4]; rfl) | (rw [decide_eq_false h4]; rfl), rfl⟩
set_option maxRecDepth 100000 in
theorem c_X12_numberOf (hK : rf_K rn rk kn nu v a) (h0 : rn = 0) {p : Nat} (hp : p < 28) : sl_R YX12_numberOf 0 [.ref 68, .int (nI p)] (rf_S v w a nm M) (some (.int (nI (nu (kn p))))) (rf_S v w a nm M) := by
  obtain ⟨k1, k2, k3, k4, k5, k6, k7⟩ := hK
  have hkp := k6 p hp
  refine sl_T.of_V (lv := [_, _]) (by decide) rfl (Nat.le_of_ble_eq_true rfl) ?_
  refine slv_aload_n eX12_numberOf_0 rfl ?_
  refine slr_ga (p := 87) eX12_numberOf_1 fX12_70 rfl ?_
  refine slv_aload_n eX12_numberOf_4 rfl ?_
  refine slr_ga (p := 86) eX12_numberOf_5 fX12_67 rfl ?_
  refine slv_iload_n eX12_numberOf_8 rfl ?_
  refine slr_ialdX (k := 39) (p := 86) (len := 32) eX12_numberOf_9 rfl (by repeat (first | exact sl_u_eq | assumption | apply rf_ne (by decide) | exact rfl)) (by omega) (by decide) (k2 p hp) ?_
  refine slr_ialdX (k := 40) (p := 87) (len := 32) eX12_numberOf_10 rfl (by repeat (first | exact sl_u_eq | assumption | apply rf_ne (by decide) | exact rfl)) (by omega) (by decide) (k4 h0 _ hkp) ?_
  refine slv_iret eX12_numberOf_11 rfl ?_
  exact ⟨rfl, rfl⟩
set_option maxRecDepth 100000 in
theorem c_X12_isKnot {e : Nat} (he : e ≤ 11) (h16 : v 16 = nI e) (hK : rf_K rn rk kn nu v a) {p : Nat} (hp : p < 32) : sl_R YX12_isKnot 1 [.ref 68, .int (nI p)] (rf_S v w a nm M) (some (.int (sl_bi (decide (p % 16 ≤ e) && decide (kn p = p))))) (rf_S v w a nm M) := by
  obtain ⟨k1, k2, k3, k4, k5, k6, k7⟩ := hK
  refine sl_T.of_V (lv := [_, _]) (by decide) rfl (Nat.le_of_ble_eq_true rfl) ?_
  by_cases h : p % 16 ≤ e
  · have h28 : p < 28 := by omega
    have hkp := k6 p h28
    have hP := c_X12_isPoint (v := v) (w := w) (a := a) (nm := nm) (M := M) he h16 hp
    rw [decide_eq_true h] at hP ⊢
    refine slv_aload_n eX12_isKnot_0 rfl ?_
    refine slv_iload_n eX12_isKnot_1 rfl ?_
    refine slv_rV (As := [_]) eX12_isKnot_2 lX12_386 rfl rfl rf_68 rfl hP (by decide) (Nat.le_of_ble_eq_true rfl) ?_
    refine slv_if_eqB eX12_isKnot_5 (fun h5 => absurd h5 (by decide)) (fun h5 => ?_)
    refine slv_aload_n eX12_isKnot_8 rfl ?_
    refine slr_ga (p := 86) eX12_isKnot_9 fX12_67 rfl ?_
    refine slv_iload_n eX12_isKnot_12 rfl ?_
    refine slr_ialdX (k := 39) (p := 86) (len := 32) eX12_isKnot_13 rfl (by repeat (first | exact sl_u_eq | assumption | apply rf_ne (by decide) | exact rfl)) (by omega) (by decide) (k2 p h28) ?_
    refine slv_iload_n eX12_isKnot_14 rfl ?_
    refine slv_icmp_neN eX12_isKnot_15 (by omega) (by omega) (fun h15 => ?_) (fun h15 => ?_)
    · refine slv_iconst (v := nI 0) eX12_isKnot_22 (by decide) ?_
      refine slv_zret eX12_isKnot_23 rfl rfl ?_
      exact ⟨by first | (rw [decide_eq_true h15]; rfl) | (rw [decide_eq_false h15]; rfl), rfl⟩
    · refine slv_iconst (v := nI 1) eX12_isKnot_18 (by decide) ?_
      refine slv_goto eX12_isKnot_19 ?_
      refine slv_zret eX12_isKnot_23 rfl rfl ?_
      exact ⟨by first | (rw [decide_eq_true h15]; rfl) | (rw [decide_eq_false h15]; rfl), rfl⟩
  · have hP := c_X12_isPoint (v := v) (w := w) (a := a) (nm := nm) (M := M) he h16 hp
    rw [decide_eq_false h] at hP ⊢
    refine slv_aload_n eX12_isKnot_0 rfl ?_
    refine slv_iload_n eX12_isKnot_1 rfl ?_
    refine slv_rV (As := [_]) eX12_isKnot_2 lX12_386 rfl rfl rf_68 rfl hP (by decide) (Nat.le_of_ble_eq_true rfl) ?_
    refine slv_if_eqB eX12_isKnot_5 (fun h5 => ?_) (fun h5 => absurd h5 (by decide))
    refine slv_iconst (v := nI 0) eX12_isKnot_22 (by decide) ?_
    refine slv_zret eX12_isKnot_23 rfl rfl ?_
    exact ⟨rfl, rfl⟩
theorem rf_K0 (hK : rf_K rn rk kn nu v a) (x : Int32) : rf_K rn rk kn nu (sl_u v 0 x) a := hK
set_option maxRecDepth 100000 in
theorem c_X12_function (h21 : v 21 = sl_bi sn) (hok : sg_ok g) (hG : sn = true → rf_G g v a) (hK : sn = true → rf_K rn rk kn nu v a) (x w' : Int32) : sl_R YX12_function 2 [.ref 68, .int x, .int w'] (rf_S v w a nm M) (some (.int (an_function sn g rn nu kn x w').1)) (rf_S (rf_an v (an_function sn g rn nu kn x w').2) w a nm M) := by
  have ht11 : sg_terms g ≤ 11 := hok.2.2.2.1
  have hT := c_X12_isTerminal (v := sl_u v 0 (nI 0)) (w := w) (a := a) (nm := nm) (M := M) (n := sg_terms g) ((sl_u_ne (by decide)).trans h21) (fun q => (sl_u_ne (by decide)).trans (hG q).2.2.1) (by omega) x
  have hJ := c_X12_in1 (rf_S (sl_u v 0 (nI 0)) w a nm M) w' (n := 1) (by omega)
  refine sl_T.of_V (lv := [_, _, _]) (by decide) rfl (Nat.le_of_ble_eq_true rfl) ?_
  unfold an_function
  cases hq : sl_vr sn x (sg_terms g + 1) with
  | none =>
    rw [hq] at hT
    refine slv_aload_n eX12_function_0 rfl ?_
    refine slv_iconst (v := nI 0) eX12_function_1 (by decide) ?_
    refine slr_pi eX12_function_2 fX12_149 (Nat.le_of_ble_eq_true rfl) rf_s0 ?_
    refine slv_aload_n eX12_function_5 rfl ?_
    refine slv_iload_n eX12_function_6 rfl ?_
    refine slv_rV (As := [_]) eX12_function_7 lX12_354 rfl rfl rf_68 rfl hT (by decide) (Nat.le_of_ble_eq_true rfl) ?_
    refine slv_if_eqB eX12_function_10 (fun h10 => ?_) (fun h10 => absurd h10 (by decide))
    refine slv_aload_n eX12_function_22 rfl ?_
    refine slv_iconst (v := nI 1) eX12_function_23 (by decide) ?_
    refine slv_rV (As := [_]) eX12_function_24 lX12_155 rfl rfl rf_68 rfl (c_X12_refused 1) (by decide) (Nat.le_of_ble_eq_true rfl) ?_
    refine slv_iret eX12_function_27 rfl ?_
    exact ⟨rfl, rfl⟩
  | some k =>
    rw [hq] at hT
    obtain ⟨hs, hx, hk⟩ := vr_some hq
    subst hs hx
    have hK1 := rf_K0 (hK rfl) (nI 0)
    have hN := c_X12_hasNumbers (v := sl_u v 0 (nI 0)) (w := w) (a := a) (nm := nm) (M := M) (rn := rn) (by have := hK1.2.2.2.2.1; omega) hK1.1
    simp only
    cases hv : sl_vi w' 2 with
    | none =>
      rw [hv] at hJ
      refine slv_aload_n eX12_function_0 rfl ?_
      refine slv_iconst (v := nI 0) eX12_function_1 (by decide) ?_
      refine slr_pi eX12_function_2 fX12_149 (Nat.le_of_ble_eq_true rfl) rf_s0 ?_
      refine slv_aload_n eX12_function_5 rfl ?_
      refine slv_iload_n eX12_function_6 rfl ?_
      refine slv_rV (As := [_]) eX12_function_7 lX12_354 rfl rfl rf_68 rfl hT (by decide) (Nat.le_of_ble_eq_true rfl) ?_
      refine slv_if_eqB eX12_function_10 (fun h10 => absurd h10 sl_tf) (fun h10 => ?_)
      refine slv_iload_n eX12_function_13 rfl ?_
      refine slv_iconst (v := nI 0) eX12_function_14 (by decide) ?_
      refine slv_iconst (v := nI 1) eX12_function_15 (by decide) ?_
      refine slv_rS (As := [_, _, _]) eX12_function_16 lX12_180 rfl rfl hJ (by decide) (Nat.le_of_ble_eq_true rfl) ?_
      refine slv_if_neB eX12_function_19 (fun h19 => absurd h19 (by decide)) (fun h19 => ?_)
      refine slv_aload_n eX12_function_22 rfl ?_
      refine slv_iconst (v := nI 1) eX12_function_23 (by decide) ?_
      refine slv_rV (As := [_]) eX12_function_24 lX12_155 rfl rfl rf_68 rfl (c_X12_refused 1) (by decide) (Nat.le_of_ble_eq_true rfl) ?_
      refine slv_iret eX12_function_27 rfl ?_
      exact ⟨rfl, rfl⟩
    | some j =>
      rw [hv] at hJ
      obtain ⟨hx, hj⟩ := vi_some hv
      subst hx
      by_cases h0 : rn = 0
      · rw [decide_eq_true h0] at hN
        have hA := fun p (hp : p < 28) => c_X12_numberOf (w := w) (nm := nm) (M := M) hK1 h0 hp
        rcases (show j = 0 ∨ j = 1 by omega) with e | e <;> subst e
        · have hA1 := hA k (by omega)
          refine slv_aload_n eX12_function_0 rfl ?_
          refine slv_iconst (v := nI 0) eX12_function_1 (by decide) ?_
          refine slr_pi eX12_function_2 fX12_149 (Nat.le_of_ble_eq_true rfl) rf_s0 ?_
          refine slv_aload_n eX12_function_5 rfl ?_
          refine slv_iload_n eX12_function_6 rfl ?_
          refine slv_rV (As := [_]) eX12_function_7 lX12_354 rfl rfl rf_68 rfl hT (by decide) (Nat.le_of_ble_eq_true rfl) ?_
          refine slv_if_eqB eX12_function_10 (fun h10 => absurd h10 sl_tf) (fun h10 => ?_)
          refine slv_iload_n eX12_function_13 rfl ?_
          refine slv_iconst (v := nI 0) eX12_function_14 (by decide) ?_
          refine slv_iconst (v := nI 1) eX12_function_15 (by decide) ?_
          refine slv_rS (As := [_, _, _]) eX12_function_16 lX12_180 rfl rfl hJ (by decide) (Nat.le_of_ble_eq_true rfl) ?_
          refine slv_if_neB eX12_function_19 (fun h19 => ?_) (fun h19 => absurd h19 sl_tf)
          refine slv_aload_n eX12_function_28 rfl ?_
          refine slv_rV (As := []) eX12_function_29 lX12_405 rfl rfl rf_68 rfl hN (by decide) (Nat.le_of_ble_eq_true rfl) ?_
          refine slv_if_eqB eX12_function_32 (fun h32 => absurd h32 (by decide)) (fun h32 => ?_)
          refine slv_aload_n eX12_function_35 rfl ?_
          refine slv_aload_n eX12_function_36 rfl ?_
          refine slv_bipush (v := nI 16) eX12_function_37 (by decide) ?_
          refine slv_iload_n eX12_function_39 rfl ?_
          refine slv_imulN eX12_function_40 ?_
          refine slv_iload_n eX12_function_41 rfl ?_
          refine slv_iaddN eX12_function_42 ?_
          rw [show 16 * 0 + k = k by omega]
          refine slv_rV (As := [_]) eX12_function_43 lX12_408 rfl rfl rf_68 rfl hA1 (by decide) (Nat.le_of_ble_eq_true rfl) ?_
          refine slv_rV (As := [_]) eX12_function_46 lX12_314 rfl rfl rf_68 rfl (c_X12_good _) (by decide) (Nat.le_of_ble_eq_true rfl) ?_
          refine slv_goto eX12_function_49 ?_
          refine slv_iret eX12_function_57 rfl ?_
          simp only [h0]
          exact ⟨rfl, rfl⟩
        · have hA1 := hA (16 + k) (by omega)
          refine slv_aload_n eX12_function_0 rfl ?_
          refine slv_iconst (v := nI 0) eX12_function_1 (by decide) ?_
          refine slr_pi eX12_function_2 fX12_149 (Nat.le_of_ble_eq_true rfl) rf_s0 ?_
          refine slv_aload_n eX12_function_5 rfl ?_
          refine slv_iload_n eX12_function_6 rfl ?_
          refine slv_rV (As := [_]) eX12_function_7 lX12_354 rfl rfl rf_68 rfl hT (by decide) (Nat.le_of_ble_eq_true rfl) ?_
          refine slv_if_eqB eX12_function_10 (fun h10 => absurd h10 sl_tf) (fun h10 => ?_)
          refine slv_iload_n eX12_function_13 rfl ?_
          refine slv_iconst (v := nI 0) eX12_function_14 (by decide) ?_
          refine slv_iconst (v := nI 1) eX12_function_15 (by decide) ?_
          refine slv_rS (As := [_, _, _]) eX12_function_16 lX12_180 rfl rfl hJ (by decide) (Nat.le_of_ble_eq_true rfl) ?_
          refine slv_if_neB eX12_function_19 (fun h19 => ?_) (fun h19 => absurd h19 sl_tf)
          refine slv_aload_n eX12_function_28 rfl ?_
          refine slv_rV (As := []) eX12_function_29 lX12_405 rfl rfl rf_68 rfl hN (by decide) (Nat.le_of_ble_eq_true rfl) ?_
          refine slv_if_eqB eX12_function_32 (fun h32 => absurd h32 (by decide)) (fun h32 => ?_)
          refine slv_aload_n eX12_function_35 rfl ?_
          refine slv_aload_n eX12_function_36 rfl ?_
          refine slv_bipush (v := nI 16) eX12_function_37 (by decide) ?_
          refine slv_iload_n eX12_function_39 rfl ?_
          refine slv_imulN eX12_function_40 ?_
          refine slv_iload_n eX12_function_41 rfl ?_
          refine slv_iaddN eX12_function_42 ?_
          rw [show 16 * 1 + k = 16 + k by omega]
          refine slv_rV (As := [_]) eX12_function_43 lX12_408 rfl rfl rf_68 rfl hA1 (by decide) (Nat.le_of_ble_eq_true rfl) ?_
          refine slv_rV (As := [_]) eX12_function_46 lX12_314 rfl rfl rf_68 rfl (c_X12_good _) (by decide) (Nat.le_of_ble_eq_true rfl) ?_
          refine slv_goto eX12_function_49 ?_
          refine slv_iret eX12_function_57 rfl ?_
          simp only [h0]
          exact ⟨rfl, rfl⟩
      · rw [decide_eq_false h0] at hN
        rcases (show j = 0 ∨ j = 1 by omega) with e | e <;> subst e
        · refine slv_aload_n eX12_function_0 rfl ?_
          refine slv_iconst (v := nI 0) eX12_function_1 (by decide) ?_
          refine slr_pi eX12_function_2 fX12_149 (Nat.le_of_ble_eq_true rfl) rf_s0 ?_
          refine slv_aload_n eX12_function_5 rfl ?_
          refine slv_iload_n eX12_function_6 rfl ?_
          refine slv_rV (As := [_]) eX12_function_7 lX12_354 rfl rfl rf_68 rfl hT (by decide) (Nat.le_of_ble_eq_true rfl) ?_
          refine slv_if_eqB eX12_function_10 (fun h10 => absurd h10 sl_tf) (fun h10 => ?_)
          refine slv_iload_n eX12_function_13 rfl ?_
          refine slv_iconst (v := nI 0) eX12_function_14 (by decide) ?_
          refine slv_iconst (v := nI 1) eX12_function_15 (by decide) ?_
          refine slv_rS (As := [_, _, _]) eX12_function_16 lX12_180 rfl rfl hJ (by decide) (Nat.le_of_ble_eq_true rfl) ?_
          refine slv_if_neB eX12_function_19 (fun h19 => ?_) (fun h19 => absurd h19 sl_tf)
          refine slv_aload_n eX12_function_28 rfl ?_
          refine slv_rV (As := []) eX12_function_29 lX12_405 rfl rfl rf_68 rfl hN (by decide) (Nat.le_of_ble_eq_true rfl) ?_
          refine slv_if_eqB eX12_function_32 (fun h32 => ?_) (fun h32 => absurd h32 (by decide))
          refine slv_aload_n eX12_function_52 rfl ?_
          refine slv_iconst (v := nI 5) eX12_function_53 (by decide) ?_
          refine slv_rV (As := [_]) eX12_function_54 lX12_155 rfl rfl rf_68 rfl (c_X12_refused 5) (by decide) (Nat.le_of_ble_eq_true rfl) ?_
          refine slv_iret eX12_function_57 rfl ?_
          simp only [h0]
          exact ⟨rfl, rfl⟩
        · refine slv_aload_n eX12_function_0 rfl ?_
          refine slv_iconst (v := nI 0) eX12_function_1 (by decide) ?_
          refine slr_pi eX12_function_2 fX12_149 (Nat.le_of_ble_eq_true rfl) rf_s0 ?_
          refine slv_aload_n eX12_function_5 rfl ?_
          refine slv_iload_n eX12_function_6 rfl ?_
          refine slv_rV (As := [_]) eX12_function_7 lX12_354 rfl rfl rf_68 rfl hT (by decide) (Nat.le_of_ble_eq_true rfl) ?_
          refine slv_if_eqB eX12_function_10 (fun h10 => absurd h10 sl_tf) (fun h10 => ?_)
          refine slv_iload_n eX12_function_13 rfl ?_
          refine slv_iconst (v := nI 0) eX12_function_14 (by decide) ?_
          refine slv_iconst (v := nI 1) eX12_function_15 (by decide) ?_
          refine slv_rS (As := [_, _, _]) eX12_function_16 lX12_180 rfl rfl hJ (by decide) (Nat.le_of_ble_eq_true rfl) ?_
          refine slv_if_neB eX12_function_19 (fun h19 => ?_) (fun h19 => absurd h19 sl_tf)
          refine slv_aload_n eX12_function_28 rfl ?_
          refine slv_rV (As := []) eX12_function_29 lX12_405 rfl rfl rf_68 rfl hN (by decide) (Nat.le_of_ble_eq_true rfl) ?_
          refine slv_if_eqB eX12_function_32 (fun h32 => ?_) (fun h32 => absurd h32 (by decide))
          refine slv_aload_n eX12_function_52 rfl ?_
          refine slv_iconst (v := nI 5) eX12_function_53 (by decide) ?_
          refine slv_rV (As := [_]) eX12_function_54 lX12_155 rfl rfl rf_68 rfl (c_X12_refused 5) (by decide) (Nat.le_of_ble_eq_true rfl) ?_
          refine slv_iret eX12_function_57 rfl ?_
          simp only [h0]
          exact ⟨rfl, rfl⟩
set_option maxRecDepth 100000 in
theorem c_X12_highest (h21 : v 21 = sl_bi sn) (hok : sg_ok g) (hG : sn = true → rf_G g v a) (hK : sn = true → rf_K rn rk kn nu v a) : sl_R YX12_highest 1 [.ref 68] (rf_S v w a nm M) (some (.int (an_highest sn (sg_terms g) rn nu kn).1)) (rf_S (rf_an v (an_highest sn (sg_terms g) rn nu kn).2) w a nm M) := by
  have ht11 : sg_terms g ≤ 11 := hok.2.2.2.1
  refine sl_T.of_V (lv := [_, _, _]) (by decide) rfl (Nat.le_of_ble_eq_true rfl) ?_
  unfold an_highest
  cases sn with
  | false =>
    refine slv_aload_n eX12_highest_0 rfl ?_
    refine slv_iconst (v := nI 0) eX12_highest_1 (by decide) ?_
    refine slr_pi eX12_highest_2 fX12_149 (Nat.le_of_ble_eq_true rfl) rf_s0 ?_
    refine slv_aload_n eX12_highest_5 rfl ?_
    refine slr_gi eX12_highest_6 fX12_317 rfl (by repeat (first | exact sl_u_eq | assumption | apply rf_ne (by decide) | exact rfl)) ?_
    refine slv_if_neB eX12_highest_9 (fun h9 => absurd h9 (by decide)) (fun h9 => ?_)
    refine slv_aload_n eX12_highest_12 rfl ?_
    refine slv_iconst (v := nI 1) eX12_highest_13 (by decide) ?_
    refine slv_rV (As := [_]) eX12_highest_14 lX12_155 rfl rfl rf_68 rfl (c_X12_refused 1) (by decide) (Nat.le_of_ble_eq_true rfl) ?_
    refine slv_iret eX12_highest_17 rfl ?_
    exact ⟨rfl, rfl⟩
  | true =>
    have hK1 := rf_K0 (hK rfl) (nI 0)
    obtain ⟨k1, k2, k3, k4, k5, k6, k7⟩ := hK1
    have hN := c_X12_hasNumbers (v := sl_u v 0 (nI 0)) (w := w) (a := a) (nm := nm) (M := M) (rn := rn) (by omega) k1
    rw [cond_true]
    by_cases h0 : rn = 0
    · rw [if_pos h0, ← rf_hg_eq ht11]
      rw [decide_eq_true h0] at hN
      have h16 : (sl_u v 0 (nI 0)) 16 = nI (sg_terms g) := (hG rfl).2.2.1
      have hP := fun p (hp : p < 32) => c_X12_isPoint (w := w) (a := a) (nm := nm) (M := M) ht11 h16 hp
      have hA := fun p (hp : p < 28) => c_X12_numberOf (w := w) (nm := nm) (M := M) (rf_K0 (hK rfl) (nI 0)) h0 hp
      have loop : ∀ n i m : Nat, i + n = 32 → m < 1000000 → ∀ Q : Option Value → sl_M → Prop, Q (some (.int (nI (rf_hg (sg_terms g) (fun p => nu (kn p)) n i m)))) (rf_S (rf_an v 0) w a nm M) → sl_V YX12_highest none 1 0 0 Q 35 [some (.ref 68), some (.int (nI m)), some (.int (nI i))] [] (rf_S (sl_u v 0 (nI 0)) w a nm M) := by
        intro n
        induction n with
        | zero =>
          intro i m hi hm Q hQ
          refine slv_iload_n eX12_highest_35 rfl ?_
          refine slv_bipush (v := nI 32) eX12_highest_36 (by decide) ?_
          refine slv_icmp_geN eX12_highest_38 (by omega) (by omega) (fun h38 => ?_) (fun h38 => absurd h38 (by omega))
          refine slv_aload_n eX12_highest_70 rfl ?_
          refine slv_iload_n eX12_highest_71 rfl ?_
          refine slv_rV (As := [_]) eX12_highest_72 lX12_314 rfl rfl rf_68 rfl (c_X12_good _) (by decide) (Nat.le_of_ble_eq_true rfl) ?_
          refine slv_iret eX12_highest_75 rfl ?_
          exact hQ
        | succ n ih =>
          intro i m hi hm Q hQ
          have hQ' : Q (some (.int (nI (rf_hg (sg_terms g) (fun p => nu (kn p)) n (i + 1) (cond (decide (i % 16 ≤ sg_terms g)) (max m (nu (kn i))) m))))) (rf_S (rf_an v 0) w a nm M) := hQ
          by_cases hp : i % 16 ≤ sg_terms g
          · have hP1 := hP i (by omega)
            have hA1 := hA i (by omega)
            have hb := k7 (kn i) (k6 i (by omega))
            rw [decide_eq_true hp] at hP1 hQ'
            rw [cond_true] at hQ'
            refine slv_iload_n eX12_highest_35 rfl ?_
            refine slv_bipush (v := nI 32) eX12_highest_36 (by decide) ?_
            refine slv_icmp_geN eX12_highest_38 (by omega) (by omega) (fun h38 => absurd h38 (by omega)) (fun h38 => ?_)
            refine slv_aload_n eX12_highest_41 rfl ?_
            refine slv_iload_n eX12_highest_42 rfl ?_
            refine slv_rV (As := [_]) eX12_highest_43 lX12_386 rfl rfl rf_68 rfl hP1 (by decide) (Nat.le_of_ble_eq_true rfl) ?_
            refine slv_if_eqB eX12_highest_46 (fun h46 => absurd h46 (by decide)) (fun h46 => ?_)
            refine slv_aload_n eX12_highest_49 rfl ?_
            refine slv_iload_n eX12_highest_50 rfl ?_
            refine slv_rV (As := [_]) eX12_highest_51 lX12_408 rfl rfl rf_68 rfl hA1 (by decide) (Nat.le_of_ble_eq_true rfl) ?_
            refine slv_iload_n eX12_highest_54 rfl ?_
            refine slv_icmp_leN eX12_highest_55 (by omega) (by omega) (fun h55 => ?_) (fun h55 => ?_)
            · refine slv_iincN (lv' := [_, _, _]) eX12_highest_64 rfl (by decide) rfl ?_
              refine slv_goto eX12_highest_67 ?_
              first | (refine ih (i + 1) m (by omega) hm Q ?_; rw [Nat.max_eq_left h55] at hQ'; exact hQ') | (refine ih (i + 1) _ (by omega) hb Q ?_; rw [Nat.max_eq_right (Nat.le_of_lt h55)] at hQ'; exact hQ')
            · refine slv_aload_n eX12_highest_58 rfl ?_
              refine slv_iload_n eX12_highest_59 rfl ?_
              refine slv_rV (As := [_]) eX12_highest_60 lX12_408 rfl rfl rf_68 rfl hA1 (by decide) (Nat.le_of_ble_eq_true rfl) ?_
              refine slv_istore_n (i := 1) (lv' := [_, _, _]) eX12_highest_63 rfl (by decide) rfl ?_
              refine slv_iincN (lv' := [_, _, _]) eX12_highest_64 rfl (by decide) rfl ?_
              refine slv_goto eX12_highest_67 ?_
              first | (refine ih (i + 1) m (by omega) hm Q ?_; rw [Nat.max_eq_left h55] at hQ'; exact hQ') | (refine ih (i + 1) _ (by omega) hb Q ?_; rw [Nat.max_eq_right (Nat.le_of_lt h55)] at hQ'; exact hQ')
          · have hP1 := hP i (by omega)
            rw [decide_eq_false hp] at hP1 hQ'
            refine slv_iload_n eX12_highest_35 rfl ?_
            refine slv_bipush (v := nI 32) eX12_highest_36 (by decide) ?_
            refine slv_icmp_geN eX12_highest_38 (by omega) (by omega) (fun h38 => absurd h38 (by omega)) (fun h38 => ?_)
            refine slv_aload_n eX12_highest_41 rfl ?_
            refine slv_iload_n eX12_highest_42 rfl ?_
            refine slv_rV (As := [_]) eX12_highest_43 lX12_386 rfl rfl rf_68 rfl hP1 (by decide) (Nat.le_of_ble_eq_true rfl) ?_
            refine slv_if_eqB eX12_highest_46 (fun h46 => ?_) (fun h46 => absurd h46 (by decide))
            refine slv_iincN (lv' := [_, _, _]) eX12_highest_64 rfl (by decide) rfl ?_
            refine slv_goto eX12_highest_67 ?_
            exact ih (i + 1) m (by omega) hm Q hQ'
      refine slv_aload_n eX12_highest_0 rfl ?_
      refine slv_iconst (v := nI 0) eX12_highest_1 (by decide) ?_
      refine slr_pi eX12_highest_2 fX12_149 (Nat.le_of_ble_eq_true rfl) rf_s0 ?_
      refine slv_aload_n eX12_highest_5 rfl ?_
      refine slr_gi eX12_highest_6 fX12_317 rfl (by repeat (first | exact sl_u_eq | assumption | apply rf_ne (by decide) | exact rfl)) ?_
      refine slv_if_neB eX12_highest_9 (fun h9 => ?_) (fun h9 => absurd h9 (by decide))
      refine slv_aload_n eX12_highest_18 rfl ?_
      refine slv_rV (As := []) eX12_highest_19 lX12_405 rfl rfl rf_68 rfl hN (by decide) (Nat.le_of_ble_eq_true rfl) ?_
      refine slv_if_neB eX12_highest_22 (fun h22 => ?_) (fun h22 => absurd h22 (by decide))
      refine slv_iconst (v := nI 0) eX12_highest_31 (by decide) ?_
      refine slv_istore_n (i := 1) (lv' := [_, _, _]) eX12_highest_32 rfl (by decide) rfl ?_
      refine slv_iconst (v := nI 0) eX12_highest_33 (by decide) ?_
      refine slv_istore_n (i := 2) (lv' := [_, _, _]) eX12_highest_34 rfl (by decide) rfl ?_
      exact loop 32 0 0 (by omega) (by omega) _ ⟨rfl, rfl⟩
    · rw [if_neg h0]
      rw [decide_eq_false h0] at hN
      refine slv_aload_n eX12_highest_0 rfl ?_
      refine slv_iconst (v := nI 0) eX12_highest_1 (by decide) ?_
      refine slr_pi eX12_highest_2 fX12_149 (Nat.le_of_ble_eq_true rfl) rf_s0 ?_
      refine slv_aload_n eX12_highest_5 rfl ?_
      refine slr_gi eX12_highest_6 fX12_317 rfl (by repeat (first | exact sl_u_eq | assumption | apply rf_ne (by decide) | exact rfl)) ?_
      refine slv_if_neB eX12_highest_9 (fun h9 => ?_) (fun h9 => absurd h9 (by decide))
      refine slv_aload_n eX12_highest_18 rfl ?_
      refine slv_rV (As := []) eX12_highest_19 lX12_405 rfl rfl rf_68 rfl hN (by decide) (Nat.le_of_ble_eq_true rfl) ?_
      refine slv_if_neB eX12_highest_22 (fun h22 => absurd h22 (by decide)) (fun h22 => ?_)
      refine slv_aload_n eX12_highest_25 rfl ?_
      refine slv_iconst (v := nI 5) eX12_highest_26 (by decide) ?_
      refine slv_rV (As := [_]) eX12_highest_27 lX12_155 rfl rfl rf_68 rfl (c_X12_refused 5) (by decide) (Nat.le_of_ble_eq_true rfl) ?_
      refine slv_iret eX12_highest_30 rfl ?_
      exact ⟨rfl, rfl⟩
set_option maxRecDepth 100000 in
theorem c_X12_knotted (h21 : v 21 = sl_bi sn) (hok : sg_ok g) (hG : sn = true → rf_G g v a) (hK : sn = true → rf_K rn rk kn nu v a) : sl_R YX12_knotted 2 [.ref 68] (rf_S v w a nm M) (some (.int (an_knotted sn (sg_terms g) kn).1)) (rf_S (rf_an v (an_knotted sn (sg_terms g) kn).2) w a nm M) := by
  have ht11 : sg_terms g ≤ 11 := hok.2.2.2.1
  refine sl_T.of_V (lv := [_, _, _]) (by decide) rfl (Nat.le_of_ble_eq_true rfl) ?_
  unfold an_knotted
  cases sn with
  | false =>
    refine slv_aload_n eX12_knotted_0 rfl ?_
    refine slv_iconst (v := nI 0) eX12_knotted_1 (by decide) ?_
    refine slr_pi eX12_knotted_2 fX12_149 (Nat.le_of_ble_eq_true rfl) rf_s0 ?_
    refine slv_aload_n eX12_knotted_5 rfl ?_
    refine slr_gi eX12_knotted_6 fX12_317 rfl (by repeat (first | exact sl_u_eq | assumption | apply rf_ne (by decide) | exact rfl)) ?_
    refine slv_if_neB eX12_knotted_9 (fun h9 => absurd h9 (by decide)) (fun h9 => ?_)
    refine slv_aload_n eX12_knotted_12 rfl ?_
    refine slv_iconst (v := nI 1) eX12_knotted_13 (by decide) ?_
    refine slv_rV (As := [_]) eX12_knotted_14 lX12_155 rfl rfl rf_68 rfl (c_X12_refused 1) (by decide) (Nat.le_of_ble_eq_true rfl) ?_
    refine slv_iret eX12_knotted_17 rfl ?_
    exact ⟨rfl, rfl⟩
  | true =>
    rw [cond_true, ← rf_kn_eq ht11]
    have h16 : (sl_u v 0 (nI 0)) 16 = nI (sg_terms g) := (hG rfl).2.2.1
    have hP := fun p (hp : p < 32) => c_X12_isKnot (w := w) (nm := nm) (M := M) ht11 h16 (rf_K0 (hK rfl) (nI 0)) hp
    have loop : ∀ n i m : Nat, i + n = 32 → ∀ Q : Option Value → sl_M → Prop, Q (some (.int (nI (m + sl_ct (fun p => decide (p % 16 ≤ sg_terms g) && decide (kn p = p)) n i)))) (rf_S (rf_an v 0) w a nm M) → sl_V YX12_knotted none 2 0 0 Q 22 [some (.ref 68), some (.int (nI m)), some (.int (nI i))] [] (rf_S (sl_u v 0 (nI 0)) w a nm M) := by
      intro n
      induction n with
      | zero =>
        intro i m hi Q hQ
        refine slv_iload_n eX12_knotted_22 rfl ?_
        refine slv_bipush (v := nI 32) eX12_knotted_23 (by decide) ?_
        refine slv_icmp_geN eX12_knotted_25 (by omega) (by omega) (fun h25 => ?_) (fun h25 => absurd h25 (by omega))
        refine slv_aload_n eX12_knotted_50 rfl ?_
        refine slv_iload_n eX12_knotted_51 rfl ?_
        refine slv_rV (As := [_]) eX12_knotted_52 lX12_314 rfl rfl rf_68 rfl (c_X12_good _) (by decide) (Nat.le_of_ble_eq_true rfl) ?_
        refine slv_iret eX12_knotted_55 rfl ?_
        exact hQ
      | succ n ih =>
        intro i m hi Q hQ
        refine slv_iload_n eX12_knotted_22 rfl ?_
        refine slv_bipush (v := nI 32) eX12_knotted_23 (by decide) ?_
        refine slv_icmp_geN eX12_knotted_25 (by omega) (by omega) (fun h25 => absurd h25 (by omega)) (fun h25 => ?_)
        refine slv_iload_n eX12_knotted_28 rfl ?_
        refine slv_aload_n eX12_knotted_29 rfl ?_
        refine slv_iload_n eX12_knotted_30 rfl ?_
        refine slv_rV (As := [_]) eX12_knotted_31 lX12_414 rfl rfl rf_68 rfl (hP i (by omega)) (by decide) (Nat.le_of_ble_eq_true rfl) ?_
        refine slv_if_eqB eX12_knotted_34 (fun h34 => ?_) (fun h34 => ?_)
        · refine slv_iconst (v := nI 0) eX12_knotted_41 (by decide) ?_
          refine slv_iaddN eX12_knotted_42 ?_
          refine slv_istore_n (i := 1) (lv' := [_, _, _]) eX12_knotted_43 rfl (by decide) rfl ?_
          refine slv_iincN (lv' := [_, _, _]) eX12_knotted_44 rfl (by decide) rfl ?_
          refine slv_goto eX12_knotted_47 ?_
          refine ih (i + 1) _ (by omega) Q ?_
          simp only [sl_ct, h34, cond_true, cond_false] at hQ
          first | (rw [Nat.zero_add] at hQ; exact hQ) | (rw [← Nat.add_assoc] at hQ; exact hQ)
        · refine slv_iconst (v := nI 1) eX12_knotted_37 (by decide) ?_
          refine slv_goto eX12_knotted_38 ?_
          refine slv_iaddN eX12_knotted_42 ?_
          refine slv_istore_n (i := 1) (lv' := [_, _, _]) eX12_knotted_43 rfl (by decide) rfl ?_
          refine slv_iincN (lv' := [_, _, _]) eX12_knotted_44 rfl (by decide) rfl ?_
          refine slv_goto eX12_knotted_47 ?_
          refine ih (i + 1) _ (by omega) Q ?_
          simp only [sl_ct, h34, cond_true, cond_false] at hQ
          first | (rw [Nat.zero_add] at hQ; exact hQ) | (rw [← Nat.add_assoc] at hQ; exact hQ)
    refine slv_aload_n eX12_knotted_0 rfl ?_
    refine slv_iconst (v := nI 0) eX12_knotted_1 (by decide) ?_
    refine slr_pi eX12_knotted_2 fX12_149 (Nat.le_of_ble_eq_true rfl) rf_s0 ?_
    refine slv_aload_n eX12_knotted_5 rfl ?_
    refine slr_gi eX12_knotted_6 fX12_317 rfl (by repeat (first | exact sl_u_eq | assumption | apply rf_ne (by decide) | exact rfl)) ?_
    refine slv_if_neB eX12_knotted_9 (fun h9 => ?_) (fun h9 => absurd h9 (by decide))
    refine slv_iconst (v := nI 0) eX12_knotted_18 (by decide) ?_
    refine slv_istore_n (i := 1) (lv' := [_, _, _]) eX12_knotted_19 rfl (by decide) rfl ?_
    refine slv_iconst (v := nI 0) eX12_knotted_20 (by decide) ?_
    refine slv_istore_n (i := 2) (lv' := [_, _, _]) eX12_knotted_21 rfl (by decide) rfl ?_
    exact loop 32 0 0 (by omega) _ ⟨by rw [Nat.zero_add]; rfl, rfl⟩
set_option maxRecDepth 100000 in
theorem c_X12_ring (h21 : v 21 = sl_bi sn) (hK : sn = true → rf_K rn rk kn nu v a) : sl_R YX12_ring 1 [.ref 68] (rf_S v w a nm M) (some (.int (an_ring sn rn).1)) (rf_S (rf_an v (an_ring sn rn).2) w a nm M) := by
  refine sl_T.of_V (lv := [_]) (by decide) rfl (Nat.le_of_ble_eq_true rfl) ?_
  unfold an_ring
  cases sn with
  | false =>
    refine slv_aload_n eX12_ring_0 rfl ?_
    refine slv_iconst (v := nI 0) eX12_ring_1 (by decide) ?_
    refine slr_pi eX12_ring_2 fX12_149 (Nat.le_of_ble_eq_true rfl) rf_s0 ?_
    refine slv_aload_n eX12_ring_5 rfl ?_
    refine slr_gi eX12_ring_6 fX12_317 rfl (by repeat (first | exact sl_u_eq | assumption | apply rf_ne (by decide) | exact rfl)) ?_
    refine slv_if_eqB eX12_ring_9 (fun h9 => ?_) (fun h9 => absurd h9 (by decide))
    refine slv_aload_n eX12_ring_23 rfl ?_
    refine slv_iconst (v := nI 1) eX12_ring_24 (by decide) ?_
    refine slv_rV (As := [_]) eX12_ring_25 lX12_155 rfl rfl rf_68 rfl (c_X12_refused 1) (by decide) (Nat.le_of_ble_eq_true rfl) ?_
    refine slv_iret eX12_ring_28 rfl ?_
    exact ⟨rfl, rfl⟩
  | true =>
    obtain ⟨k1, k2, k3, k4, k5, k6, k7⟩ := hK rfl
    refine slv_aload_n eX12_ring_0 rfl ?_
    refine slv_iconst (v := nI 0) eX12_ring_1 (by decide) ?_
    refine slr_pi eX12_ring_2 fX12_149 (Nat.le_of_ble_eq_true rfl) rf_s0 ?_
    refine slv_aload_n eX12_ring_5 rfl ?_
    refine slr_gi eX12_ring_6 fX12_317 rfl (by repeat (first | exact sl_u_eq | assumption | apply rf_ne (by decide) | exact rfl)) ?_
    refine slv_if_eqB eX12_ring_9 (fun h9 => absurd h9 (by decide)) (fun h9 => ?_)
    refine slv_aload_n eX12_ring_12 rfl ?_
    refine slv_aload_n eX12_ring_13 rfl ?_
    refine slr_gi eX12_ring_14 fX12_396 rfl (by repeat (first | exact sl_u_eq | assumption | apply rf_ne (by decide) | exact rfl)) ?_
    refine slv_rV (As := [_]) eX12_ring_17 lX12_314 rfl rfl rf_68 rfl (c_X12_good _) (by decide) (Nat.le_of_ble_eq_true rfl) ?_
    refine slv_goto eX12_ring_20 ?_
    refine slv_iret eX12_ring_28 rfl ?_
    exact ⟨rfl, rfl⟩
set_option maxRecDepth 100000 in
theorem c_X12_ringAt (h21 : v 21 = sl_bi sn) (hK : sn = true → rf_K rn rk kn nu v a) (x : Int32) : sl_R YX12_ringAt 1 [.ref 68, .int x] (rf_S v w a nm M) (some (.int (an_ringAt sn rn rk x).1)) (rf_S (rf_an v (an_ringAt sn rn rk x).2) w a nm M) := by
  refine sl_T.of_V (lv := [_, _]) (by decide) rfl (Nat.le_of_ble_eq_true rfl) ?_
  unfold an_ringAt
  cases sn with
  | false =>
    refine slv_aload_n eX12_ringAt_0 rfl ?_
    refine slv_iconst (v := nI 0) eX12_ringAt_1 (by decide) ?_
    refine slr_pi eX12_ringAt_2 fX12_149 (Nat.le_of_ble_eq_true rfl) rf_s0 ?_
    refine slv_aload_n eX12_ringAt_5 rfl ?_
    refine slr_gi eX12_ringAt_6 fX12_317 rfl (by repeat (first | exact sl_u_eq | assumption | apply rf_ne (by decide) | exact rfl)) ?_
    refine slv_if_eqB eX12_ringAt_9 (fun h9 => ?_) (fun h9 => absurd h9 (by decide))
    refine slv_aload_n eX12_ringAt_39 rfl ?_
    refine slv_iconst (v := nI 1) eX12_ringAt_40 (by decide) ?_
    refine slv_rV (As := [_]) eX12_ringAt_41 lX12_155 rfl rfl rf_68 rfl (c_X12_refused 1) (by decide) (Nat.le_of_ble_eq_true rfl) ?_
    refine slv_iret eX12_ringAt_44 rfl ?_
    exact ⟨rfl, rfl⟩
  | true =>
    obtain ⟨k1, k2, k3, k4, k5, k6, k7⟩ := hK rfl
    have hI := c_X12_in0 (rf_S (sl_u v 0 (nI 0)) w a nm M) x (n := rn) (by omega)
    rw [show sl_vr true x rn = sl_vi x rn from rfl]
    cases hq : sl_vi x rn with
    | none =>
      rw [hq] at hI
      refine slv_aload_n eX12_ringAt_0 rfl ?_
      refine slv_iconst (v := nI 0) eX12_ringAt_1 (by decide) ?_
      refine slr_pi eX12_ringAt_2 fX12_149 (Nat.le_of_ble_eq_true rfl) rf_s0 ?_
      refine slv_aload_n eX12_ringAt_5 rfl ?_
      refine slr_gi eX12_ringAt_6 fX12_317 rfl (by repeat (first | exact sl_u_eq | assumption | apply rf_ne (by decide) | exact rfl)) ?_
      refine slv_if_eqB eX12_ringAt_9 (fun h9 => absurd h9 (by decide)) (fun h9 => ?_)
      refine slv_iload_n eX12_ringAt_12 rfl ?_
      refine slv_iconst (v := nI 0) eX12_ringAt_13 (by decide) ?_
      refine slv_aload_n eX12_ringAt_14 rfl ?_
      refine slr_gi eX12_ringAt_15 fX12_396 rfl (by repeat (first | exact sl_u_eq | assumption | apply rf_ne (by decide) | exact rfl)) ?_
      refine slv_iconst (v := nI 1) eX12_ringAt_18 (by decide) ?_
      refine slv_isub eX12_ringAt_19 ?_
      refine slv_rS (As := [_, _, _]) eX12_ringAt_20 lX12_180 rfl rfl hI (by decide) (Nat.le_of_ble_eq_true rfl) ?_
      refine slv_if_eqB eX12_ringAt_23 (fun h23 => ?_) (fun h23 => absurd h23 (by decide))
      refine slv_aload_n eX12_ringAt_39 rfl ?_
      refine slv_iconst (v := nI 1) eX12_ringAt_40 (by decide) ?_
      refine slv_rV (As := [_]) eX12_ringAt_41 lX12_155 rfl rfl rf_68 rfl (c_X12_refused 1) (by decide) (Nat.le_of_ble_eq_true rfl) ?_
      refine slv_iret eX12_ringAt_44 rfl ?_
      exact ⟨rfl, rfl⟩
    | some k =>
      rw [hq] at hI
      obtain ⟨hx, hk⟩ := vi_some hq
      subst hx
      refine slv_aload_n eX12_ringAt_0 rfl ?_
      refine slv_iconst (v := nI 0) eX12_ringAt_1 (by decide) ?_
      refine slr_pi eX12_ringAt_2 fX12_149 (Nat.le_of_ble_eq_true rfl) rf_s0 ?_
      refine slv_aload_n eX12_ringAt_5 rfl ?_
      refine slr_gi eX12_ringAt_6 fX12_317 rfl (by repeat (first | exact sl_u_eq | assumption | apply rf_ne (by decide) | exact rfl)) ?_
      refine slv_if_eqB eX12_ringAt_9 (fun h9 => absurd h9 (by decide)) (fun h9 => ?_)
      refine slv_iload_n eX12_ringAt_12 rfl ?_
      refine slv_iconst (v := nI 0) eX12_ringAt_13 (by decide) ?_
      refine slv_aload_n eX12_ringAt_14 rfl ?_
      refine slr_gi eX12_ringAt_15 fX12_396 rfl (by repeat (first | exact sl_u_eq | assumption | apply rf_ne (by decide) | exact rfl)) ?_
      refine slv_iconst (v := nI 1) eX12_ringAt_18 (by decide) ?_
      refine slv_isub eX12_ringAt_19 ?_
      refine slv_rS (As := [_, _, _]) eX12_ringAt_20 lX12_180 rfl rfl hI (by decide) (Nat.le_of_ble_eq_true rfl) ?_
      refine slv_if_eqB eX12_ringAt_23 (fun h23 => absurd h23 sl_tf) (fun h23 => ?_)
      refine slv_aload_n eX12_ringAt_26 rfl ?_
      refine slv_aload_n eX12_ringAt_27 rfl ?_
      refine slr_ga (p := 91) eX12_ringAt_28 fX12_83 rfl ?_
      refine slv_iload_n eX12_ringAt_31 rfl ?_
      refine slr_ialdX (k := 45) (p := 91) (len := 33) eX12_ringAt_32 rfl (by repeat (first | exact sl_u_eq | assumption | apply rf_ne (by decide) | exact rfl)) (by omega) (by decide) (k3 k hk) ?_
      refine slv_rV (As := [_]) eX12_ringAt_33 lX12_314 rfl rfl rf_68 rfl (c_X12_good _) (by decide) (Nat.le_of_ble_eq_true rfl) ?_
      refine slv_goto eX12_ringAt_36 ?_
      refine slv_iret eX12_ringAt_44 rfl ?_
      exact ⟨rfl, rfl⟩
set_option maxRecDepth 100000 in
theorem c_X12_isHidden {e : Nat} (he : e ≤ 11) (h16 : v 16 = nI e) (hR : rf_R l t s a) (hK : rf_K rn rk kn nu v a) (h0 : rn = 0) {x y : Nat} (hx : x < 12) (hy : y < 12) (r : Int32) : sl_R YX12_isHidden 1 [.ref 68, .int (nI x), .int (nI y), .int r] (rf_S v w a nm M) (some (.int (sl_bi (an_hid s nu kn r x y)))) (rf_S v w a nm M) := by
  have hA1 := c_X12_numberOf (w := w) (nm := nm) (M := M) hK h0 (show x < 28 by omega)
  have hA2 := c_X12_numberOf (w := w) (nm := nm) (M := M) hK h0 (show 16 + y < 28 by omega)
  have hS := c_X12_relationOf (v := v) (w := w) (a := a) (nm := nm) (M := M) (x := x) (y := y) (by omega)
  rw [hR.2 _ (by omega)] at hS
  obtain ⟨k1, k2, k3, k4, k5, k6, k7⟩ := hK
  have b1 := k7 _ (k6 x (by omega))
  have b2 := k7 _ (k6 (16 + y) (by omega))
  refine sl_T.of_V (lv := [_, _, _, _, _, _]) (by decide) rfl (Nat.le_of_ble_eq_true rfl) ?_
  unfold an_hid lk_cp
  generalize nu (kn x) = fx at *
  generalize nu (kn (16 + y)) = gy at *
  refine slv_aload_n eX12_isHidden_0 rfl ?_
  refine slv_iload_n eX12_isHidden_1 rfl ?_
  refine slv_rV (As := [_]) eX12_isHidden_2 lX12_408 rfl rfl rf_68 rfl hA1 (by decide) (Nat.le_of_ble_eq_true rfl) ?_
  refine slv_istore (lv' := [_, _, _, _, _, _]) eX12_isHidden_5 (by decide) rfl ?_
  refine slv_aload_n eX12_isHidden_7 rfl ?_
  refine slv_bipush (v := nI 16) eX12_isHidden_8 (by decide) ?_
  refine slv_iload_n eX12_isHidden_10 rfl ?_
  refine slv_iaddN eX12_isHidden_11 ?_
  refine slv_rV (As := [_]) eX12_isHidden_12 lX12_408 rfl rfl rf_68 rfl hA2 (by decide) (Nat.le_of_ble_eq_true rfl) ?_
  refine slv_istore (lv' := [_, _, _, _, _, _]) eX12_isHidden_15 (by decide) rfl ?_
  refine slv_aload_n eX12_isHidden_17 rfl ?_
  refine slv_iload_n eX12_isHidden_18 rfl ?_
  refine slv_iload_n eX12_isHidden_19 rfl ?_
  refine slv_rV (As := [_, _]) eX12_isHidden_20 lX12_371 rfl rfl rf_68 rfl hS (by decide) (Nat.le_of_ble_eq_true rfl) ?_
  refine slv_if_ne eX12_isHidden_23 (fun h23 => ?_) (fun h23 => ?_)
  · refine slv_iconst (v := nI 0) eX12_isHidden_57 (by decide) ?_
    refine slv_zret eX12_isHidden_58 rfl rfl ?_
    refine ⟨?_, rfl⟩
    first | (rw [decide_eq_false h23]; rfl) | (rw [decide_eq_true h23, if_pos h31, decide_eq_true h50.symm]; rfl) | (rw [decide_eq_true h23, if_pos h31, decide_eq_false (fun q => h50 q.symm)]; rfl) | (rw [decide_eq_true h23, if_neg (Nat.not_lt.mpr h31), if_pos h42, decide_eq_true h50.symm]; rfl) | (rw [decide_eq_true h23, if_neg (Nat.not_lt.mpr h31), if_pos h42, decide_eq_false (fun q => h50 q.symm)]; rfl) | (rw [decide_eq_true h23, if_neg (Nat.not_lt.mpr h31), if_neg h42, decide_eq_true h50.symm]; rfl) | (rw [decide_eq_true h23, if_neg (Nat.not_lt.mpr h31), if_neg h42, decide_eq_false (fun q => h50 q.symm)]; rfl)
  · refine slv_iload_n eX12_isHidden_26 rfl ?_
    refine slv_iload eX12_isHidden_27 rfl ?_
    refine slv_iload eX12_isHidden_29 rfl ?_
    refine slv_icmp_geN eX12_isHidden_31 (by omega) (by omega) (fun h31 => ?_) (fun h31 => ?_)
    · refine slv_iload eX12_isHidden_38 rfl ?_
      refine slv_iload eX12_isHidden_40 rfl ?_
      refine slv_icmp_neN eX12_isHidden_42 (by omega) (by omega) (fun h42 => ?_) (fun h42 => ?_)
      · refine slv_iconst (v := nI 4) eX12_isHidden_49 (by decide) ?_
        refine slv_icmp_ne eX12_isHidden_50 (fun h50 => ?_) (fun h50 => ?_)
        · refine slv_iconst (v := nI 0) eX12_isHidden_57 (by decide) ?_
          refine slv_zret eX12_isHidden_58 rfl rfl ?_
          refine ⟨?_, rfl⟩
          first | (rw [decide_eq_false h23]; rfl) | (rw [decide_eq_true h23, if_pos h31, decide_eq_true h50.symm]; rfl) | (rw [decide_eq_true h23, if_pos h31, decide_eq_false (fun q => h50 q.symm)]; rfl) | (rw [decide_eq_true h23, if_neg (Nat.not_lt.mpr h31), if_pos h42, decide_eq_true h50.symm]; rfl) | (rw [decide_eq_true h23, if_neg (Nat.not_lt.mpr h31), if_pos h42, decide_eq_false (fun q => h50 q.symm)]; rfl) | (rw [decide_eq_true h23, if_neg (Nat.not_lt.mpr h31), if_neg h42, decide_eq_true h50.symm]; rfl) | (rw [decide_eq_true h23, if_neg (Nat.not_lt.mpr h31), if_neg h42, decide_eq_false (fun q => h50 q.symm)]; rfl)
        · refine slv_iconst (v := nI 1) eX12_isHidden_53 (by decide) ?_
          refine slv_goto eX12_isHidden_54 ?_
          refine slv_zret eX12_isHidden_58 rfl rfl ?_
          refine ⟨?_, rfl⟩
          first | (rw [decide_eq_false h23]; rfl) | (rw [decide_eq_true h23, if_pos h31, decide_eq_true h50.symm]; rfl) | (rw [decide_eq_true h23, if_pos h31, decide_eq_false (fun q => h50 q.symm)]; rfl) | (rw [decide_eq_true h23, if_neg (Nat.not_lt.mpr h31), if_pos h42, decide_eq_true h50.symm]; rfl) | (rw [decide_eq_true h23, if_neg (Nat.not_lt.mpr h31), if_pos h42, decide_eq_false (fun q => h50 q.symm)]; rfl) | (rw [decide_eq_true h23, if_neg (Nat.not_lt.mpr h31), if_neg h42, decide_eq_true h50.symm]; rfl) | (rw [decide_eq_true h23, if_neg (Nat.not_lt.mpr h31), if_neg h42, decide_eq_false (fun q => h50 q.symm)]; rfl)
      · refine slv_iconst (v := nI 2) eX12_isHidden_45 (by decide) ?_
        refine slv_goto eX12_isHidden_46 ?_
        refine slv_icmp_ne eX12_isHidden_50 (fun h50 => ?_) (fun h50 => ?_)
        · refine slv_iconst (v := nI 0) eX12_isHidden_57 (by decide) ?_
          refine slv_zret eX12_isHidden_58 rfl rfl ?_
          refine ⟨?_, rfl⟩
          first | (rw [decide_eq_false h23]; rfl) | (rw [decide_eq_true h23, if_pos h31, decide_eq_true h50.symm]; rfl) | (rw [decide_eq_true h23, if_pos h31, decide_eq_false (fun q => h50 q.symm)]; rfl) | (rw [decide_eq_true h23, if_neg (Nat.not_lt.mpr h31), if_pos h42, decide_eq_true h50.symm]; rfl) | (rw [decide_eq_true h23, if_neg (Nat.not_lt.mpr h31), if_pos h42, decide_eq_false (fun q => h50 q.symm)]; rfl) | (rw [decide_eq_true h23, if_neg (Nat.not_lt.mpr h31), if_neg h42, decide_eq_true h50.symm]; rfl) | (rw [decide_eq_true h23, if_neg (Nat.not_lt.mpr h31), if_neg h42, decide_eq_false (fun q => h50 q.symm)]; rfl)
        · refine slv_iconst (v := nI 1) eX12_isHidden_53 (by decide) ?_
          refine slv_goto eX12_isHidden_54 ?_
          refine slv_zret eX12_isHidden_58 rfl rfl ?_
          refine ⟨?_, rfl⟩
          first | (rw [decide_eq_false h23]; rfl) | (rw [decide_eq_true h23, if_pos h31, decide_eq_true h50.symm]; rfl) | (rw [decide_eq_true h23, if_pos h31, decide_eq_false (fun q => h50 q.symm)]; rfl) | (rw [decide_eq_true h23, if_neg (Nat.not_lt.mpr h31), if_pos h42, decide_eq_true h50.symm]; rfl) | (rw [decide_eq_true h23, if_neg (Nat.not_lt.mpr h31), if_pos h42, decide_eq_false (fun q => h50 q.symm)]; rfl) | (rw [decide_eq_true h23, if_neg (Nat.not_lt.mpr h31), if_neg h42, decide_eq_true h50.symm]; rfl) | (rw [decide_eq_true h23, if_neg (Nat.not_lt.mpr h31), if_neg h42, decide_eq_false (fun q => h50 q.symm)]; rfl)
    · refine slv_iconst (v := nI 1) eX12_isHidden_34 (by decide) ?_
      refine slv_goto eX12_isHidden_35 ?_
      refine slv_icmp_ne eX12_isHidden_50 (fun h50 => ?_) (fun h50 => ?_)
      · refine slv_iconst (v := nI 0) eX12_isHidden_57 (by decide) ?_
        refine slv_zret eX12_isHidden_58 rfl rfl ?_
        refine ⟨?_, rfl⟩
        first | (rw [decide_eq_false h23]; rfl) | (rw [decide_eq_true h23, if_pos h31, decide_eq_true h50.symm]; rfl) | (rw [decide_eq_true h23, if_pos h31, decide_eq_false (fun q => h50 q.symm)]; rfl) | (rw [decide_eq_true h23, if_neg (Nat.not_lt.mpr h31), if_pos h42, decide_eq_true h50.symm]; rfl) | (rw [decide_eq_true h23, if_neg (Nat.not_lt.mpr h31), if_pos h42, decide_eq_false (fun q => h50 q.symm)]; rfl) | (rw [decide_eq_true h23, if_neg (Nat.not_lt.mpr h31), if_neg h42, decide_eq_true h50.symm]; rfl) | (rw [decide_eq_true h23, if_neg (Nat.not_lt.mpr h31), if_neg h42, decide_eq_false (fun q => h50 q.symm)]; rfl)
      · refine slv_iconst (v := nI 1) eX12_isHidden_53 (by decide) ?_
        refine slv_goto eX12_isHidden_54 ?_
        refine slv_zret eX12_isHidden_58 rfl rfl ?_
        refine ⟨?_, rfl⟩
        first | (rw [decide_eq_false h23]; rfl) | (rw [decide_eq_true h23, if_pos h31, decide_eq_true h50.symm]; rfl) | (rw [decide_eq_true h23, if_pos h31, decide_eq_false (fun q => h50 q.symm)]; rfl) | (rw [decide_eq_true h23, if_neg (Nat.not_lt.mpr h31), if_pos h42, decide_eq_true h50.symm]; rfl) | (rw [decide_eq_true h23, if_neg (Nat.not_lt.mpr h31), if_pos h42, decide_eq_false (fun q => h50 q.symm)]; rfl) | (rw [decide_eq_true h23, if_neg (Nat.not_lt.mpr h31), if_neg h42, decide_eq_true h50.symm]; rfl) | (rw [decide_eq_true h23, if_neg (Nat.not_lt.mpr h31), if_neg h42, decide_eq_false (fun q => h50 q.symm)]; rfl)
set_option maxRecDepth 100000 in
theorem c_X12_hidden (h21 : v 21 = sl_bi sn) (hok : sg_ok g) (hG : sn = true → rf_G g v a) (hR : sn = true → rf_R l t s a) (hK : sn = true → rf_K rn rk kn nu v a) (x : Int32) : sl_R YX12_hidden 2 [.ref 68, .int x] (rf_S v w a nm M) (some (.int (an_hidden sn (sg_terms g) rn s nu kn x).1)) (rf_S (rf_an v (an_hidden sn (sg_terms g) rn s nu kn x).2) w a nm M) := by
  have ht11 : sg_terms g ≤ 11 := hok.2.2.2.1
  refine sl_T.of_V (lv := [_, _, _, _, _]) (by decide) rfl (Nat.le_of_ble_eq_true rfl) ?_
  unfold an_hidden
  cases sn with
  | false =>
    refine slv_aload_n eX12_hidden_0 rfl ?_
    refine slv_iconst (v := nI 0) eX12_hidden_1 (by decide) ?_
    refine slr_pi eX12_hidden_2 fX12_149 (Nat.le_of_ble_eq_true rfl) rf_s0 ?_
    refine slv_aload_n eX12_hidden_5 rfl ?_
    refine slr_gi eX12_hidden_6 fX12_317 rfl (by repeat (first | exact sl_u_eq | assumption | apply rf_ne (by decide) | exact rfl)) ?_
    refine slv_if_neB eX12_hidden_9 (fun h9 => absurd h9 (by decide)) (fun h9 => ?_)
    refine slv_aload_n eX12_hidden_12 rfl ?_
    refine slv_iconst (v := nI 1) eX12_hidden_13 (by decide) ?_
    refine slv_rV (As := [_]) eX12_hidden_14 lX12_155 rfl rfl rf_68 rfl (c_X12_refused 1) (by decide) (Nat.le_of_ble_eq_true rfl) ?_
    refine slv_iret eX12_hidden_17 rfl ?_
    exact ⟨rfl, rfl⟩
  | true =>
    have hK1 := rf_K0 (hK rfl) (nI 0)
    have h16 : (sl_u v 0 (nI 0)) 16 = nI (sg_terms g) := (hG rfl).2.2.1
    have hN := c_X12_hasNumbers (v := sl_u v 0 (nI 0)) (w := w) (a := a) (nm := nm) (M := M) (rn := rn) (by have := hK1.2.2.2.2.1; omega) hK1.1
    rw [cond_true]
    generalize sg_terms g = e at *
    have main : ∀ (z1 z2 z3 : Option Value) (Q : Option Value → sl_M → Prop), Q (some (.int (if rn = 0 then an_ok (nI (an_hc s nu kn x e (e + 1) 0)) else an_no 5).1)) (rf_S (rf_an v (if rn = 0 then an_ok (nI (an_hc s nu kn x e (e + 1) 0)) else an_no 5).2) w a nm M) → sl_V YX12_hidden none 2 0 0 Q 39 [some (.ref 68), some (.int x), z1, z2, z3] [] (rf_S (sl_u v 0 (nI 0)) w a nm M) := by
      intro z1 z2 z3 Q hQ
      by_cases h0 : rn = 0
      · rw [if_pos h0] at hQ
        rw [decide_eq_true h0] at hN
        have hA := fun x' y' (hx : x' < 12) (hy : y' < 12) => c_X12_isHidden (w := w) (nm := nm) (M := M) ht11 h16 (hR rfl) hK1 h0 hx hy x
        have row : ∀ (m i acc xx : Nat), i + m = e + 1 → xx ≤ e → ∀ Q : Option Value → sl_M → Prop, sl_V YX12_hidden none 2 0 0 Q 101 [some (.ref 68), some (.int x), some (.int (nI (acc + sl_ct (fun y => an_hid s nu kn x xx y) m i))), some (.int (nI xx)), some (.int (nI (e + 1)))] [] (rf_S (sl_u v 0 (nI 0)) w a nm M) → sl_V YX12_hidden none 2 0 0 Q 67 [some (.ref 68), some (.int x), some (.int (nI acc)), some (.int (nI xx)), some (.int (nI i))] [] (rf_S (sl_u v 0 (nI 0)) w a nm M) := by
          intro m
          induction m with
          | zero =>
            intro i acc xx hi hx Q hQ
            have hi' : i = e + 1 := by omega
            subst hi'
            refine slv_iload eX12_hidden_67 rfl ?_
            refine slv_aload_n eX12_hidden_69 rfl ?_
            refine slr_gi eX12_hidden_70 fX12_324 rfl (by repeat (first | exact sl_u_eq | assumption | apply rf_ne (by decide) | exact rfl)) ?_
            refine slv_icmp_gtN eX12_hidden_73 (by omega) (by omega) (fun h73 => ?_) (fun h73 => absurd h73 (by omega))
            exact hQ
          | succ m ih =>
            intro i acc xx hi hx Q hQ
            refine slv_iload eX12_hidden_67 rfl ?_
            refine slv_aload_n eX12_hidden_69 rfl ?_
            refine slr_gi eX12_hidden_70 fX12_324 rfl (by repeat (first | exact sl_u_eq | assumption | apply rf_ne (by decide) | exact rfl)) ?_
            refine slv_icmp_gtN eX12_hidden_73 (by omega) (by omega) (fun h73 => absurd h73 (by omega)) (fun h73 => ?_)
            refine slv_iload_n eX12_hidden_76 rfl ?_
            refine slv_aload_n eX12_hidden_77 rfl ?_
            refine slv_iload_n eX12_hidden_78 rfl ?_
            refine slv_iload eX12_hidden_79 rfl ?_
            refine slv_iload_n eX12_hidden_81 rfl ?_
            refine slv_rV (As := [_, _, _]) eX12_hidden_82 lX12_411 rfl rfl rf_68 rfl (hA xx i (by omega) (by omega)) (by decide) (Nat.le_of_ble_eq_true rfl) ?_
            refine slv_if_eqB eX12_hidden_85 (fun h85 => ?_) (fun h85 => ?_)
            · refine slv_iconst (v := nI 0) eX12_hidden_92 (by decide) ?_
              refine slv_iaddN eX12_hidden_93 ?_
              refine slv_istore_n (i := 2) (lv' := [_, _, _, _, _]) eX12_hidden_94 rfl (by decide) rfl ?_
              refine slv_iincN (lv' := [_, _, _, _, _]) eX12_hidden_95 rfl (by decide) rfl ?_
              refine slv_goto eX12_hidden_98 ?_
              refine ih (i + 1) _ xx (by omega) hx Q ?_
              simp only [sl_ct, h85, cond_false, cond_true] at hQ
              first | (rw [Nat.zero_add] at hQ; exact hQ) | (rw [← Nat.add_assoc] at hQ; exact hQ)
            · refine slv_iconst (v := nI 1) eX12_hidden_88 (by decide) ?_
              refine slv_goto eX12_hidden_89 ?_
              refine slv_iaddN eX12_hidden_93 ?_
              refine slv_istore_n (i := 2) (lv' := [_, _, _, _, _]) eX12_hidden_94 rfl (by decide) rfl ?_
              refine slv_iincN (lv' := [_, _, _, _, _]) eX12_hidden_95 rfl (by decide) rfl ?_
              refine slv_goto eX12_hidden_98 ?_
              refine ih (i + 1) _ xx (by omega) hx Q ?_
              simp only [sl_ct, h85, cond_false, cond_true] at hQ
              first | (rw [Nat.zero_add] at hQ; exact hQ) | (rw [← Nat.add_assoc] at hQ; exact hQ)
        have rows : ∀ (m i acc : Nat) (y : Option Value), i + m = e + 1 → ∀ Q : Option Value → sl_M → Prop, Q (some (.int (nI (sl_fo (fun x' a => a + sl_ct (fun y => an_hid s nu kn x x' y) (e + 1) 0) m i acc)))) (rf_S (rf_an v 0) w a nm M) → sl_V YX12_hidden none 2 0 0 Q 56 [some (.ref 68), some (.int x), some (.int (nI acc)), some (.int (nI i)), y] [] (rf_S (sl_u v 0 (nI 0)) w a nm M) := by
          intro m
          induction m with
          | zero =>
            intro i acc y hi Q hQ
            refine slv_iload_n eX12_hidden_56 rfl ?_
            refine slv_aload_n eX12_hidden_57 rfl ?_
            refine slr_gi eX12_hidden_58 fX12_324 rfl (by repeat (first | exact sl_u_eq | assumption | apply rf_ne (by decide) | exact rfl)) ?_
            refine slv_icmp_gtN eX12_hidden_61 (by omega) (by omega) (fun h61 => ?_) (fun h61 => absurd h61 (by omega))
            refine slv_aload_n eX12_hidden_107 rfl ?_
            refine slv_iload_n eX12_hidden_108 rfl ?_
            refine slv_rV (As := [_]) eX12_hidden_109 lX12_314 rfl rfl rf_68 rfl (c_X12_good _) (by decide) (Nat.le_of_ble_eq_true rfl) ?_
            refine slv_iret eX12_hidden_112 rfl ?_
            exact hQ
          | succ m ih =>
            intro i acc y hi Q hQ
            refine slv_iload_n eX12_hidden_56 rfl ?_
            refine slv_aload_n eX12_hidden_57 rfl ?_
            refine slr_gi eX12_hidden_58 fX12_324 rfl (by repeat (first | exact sl_u_eq | assumption | apply rf_ne (by decide) | exact rfl)) ?_
            refine slv_icmp_gtN eX12_hidden_61 (by omega) (by omega) (fun h61 => absurd h61 (by omega)) (fun h61 => ?_)
            refine slv_iconst (v := nI 0) eX12_hidden_64 (by decide) ?_
            refine slv_istore (lv' := [_, _, _, _, _]) eX12_hidden_65 (by decide) rfl ?_
            refine row (e + 1) 0 acc i (by omega) (by omega) Q ?_
            refine slv_iincN (lv' := [_, _, _, _, _]) eX12_hidden_101 rfl (by decide) rfl ?_
            refine slv_goto eX12_hidden_104 ?_
            exact ih (i + 1) _ _ (by omega) Q hQ
        refine slv_aload_n eX12_hidden_39 rfl ?_
        refine slv_rV (As := []) eX12_hidden_40 lX12_405 rfl rfl rf_68 rfl hN (by decide) (Nat.le_of_ble_eq_true rfl) ?_
        refine slv_if_neB eX12_hidden_43 (fun h43 => ?_) (fun h43 => absurd h43 (by decide))
        refine slv_iconst (v := nI 0) eX12_hidden_52 (by decide) ?_
        refine slv_istore_n (i := 2) (lv' := [_, _, _, _, _]) eX12_hidden_53 rfl (by decide) rfl ?_
        refine slv_iconst (v := nI 0) eX12_hidden_54 (by decide) ?_
        refine slv_istore_n (i := 3) (lv' := [_, _, _, _, _]) eX12_hidden_55 rfl (by decide) rfl ?_
        exact rows (e + 1) 0 0 _ (by omega) _ hQ
      · rw [if_neg h0] at hQ
        rw [decide_eq_false h0] at hN
        refine slv_aload_n eX12_hidden_39 rfl ?_
        refine slv_rV (As := []) eX12_hidden_40 lX12_405 rfl rfl rf_68 rfl hN (by decide) (Nat.le_of_ble_eq_true rfl) ?_
        refine slv_if_neB eX12_hidden_43 (fun h43 => absurd h43 (by decide)) (fun h43 => ?_)
        refine slv_aload_n eX12_hidden_46 rfl ?_
        refine slv_iconst (v := nI 5) eX12_hidden_47 (by decide) ?_
        refine slv_rV (As := [_]) eX12_hidden_48 lX12_155 rfl rfl rf_68 rfl (c_X12_refused 5) (by decide) (Nat.le_of_ble_eq_true rfl) ?_
        refine slv_iret eX12_hidden_51 rfl ?_
        exact hQ
    unfold an_isr
    by_cases h1 : x = nI 1
    · rw [decide_eq_true h1, Bool.true_or, cond_true]
      refine slv_aload_n eX12_hidden_0 rfl ?_
      refine slv_iconst (v := nI 0) eX12_hidden_1 (by decide) ?_
      refine slr_pi eX12_hidden_2 fX12_149 (Nat.le_of_ble_eq_true rfl) rf_s0 ?_
      refine slv_aload_n eX12_hidden_5 rfl ?_
      refine slr_gi eX12_hidden_6 fX12_317 rfl (by repeat (first | exact sl_u_eq | assumption | apply rf_ne (by decide) | exact rfl)) ?_
      refine slv_if_neB eX12_hidden_9 (fun h9 => ?_) (fun h9 => absurd h9 (by decide))
      refine slv_iload_n eX12_hidden_18 rfl ?_
      refine slv_iconst (v := nI 1) eX12_hidden_19 (by decide) ?_
      refine slv_icmp_eq eX12_hidden_20 (fun h20 => ?_) (fun h20 => absurd h1 h20)
      exact main _ _ _ _ ⟨rfl, rfl⟩
    · rw [decide_eq_false h1, Bool.false_or]
      by_cases h2 : x = nI 2
      · rw [decide_eq_true h2, Bool.true_or, cond_true]
        refine slv_aload_n eX12_hidden_0 rfl ?_
        refine slv_iconst (v := nI 0) eX12_hidden_1 (by decide) ?_
        refine slr_pi eX12_hidden_2 fX12_149 (Nat.le_of_ble_eq_true rfl) rf_s0 ?_
        refine slv_aload_n eX12_hidden_5 rfl ?_
        refine slr_gi eX12_hidden_6 fX12_317 rfl (by repeat (first | exact sl_u_eq | assumption | apply rf_ne (by decide) | exact rfl)) ?_
        refine slv_if_neB eX12_hidden_9 (fun h9 => ?_) (fun h9 => absurd h9 (by decide))
        refine slv_iload_n eX12_hidden_18 rfl ?_
        refine slv_iconst (v := nI 1) eX12_hidden_19 (by decide) ?_
        refine slv_icmp_eq eX12_hidden_20 (fun h20 => absurd h20 h1) (fun h20 => ?_)
        refine slv_iload_n eX12_hidden_23 rfl ?_
        refine slv_iconst (v := nI 2) eX12_hidden_24 (by decide) ?_
        refine slv_icmp_eq eX12_hidden_25 (fun h25 => ?_) (fun h25 => absurd h2 h25)
        exact main _ _ _ _ ⟨rfl, rfl⟩
      · rw [decide_eq_false h2, Bool.false_or]
        by_cases h4 : x = nI 4
        · rw [decide_eq_true h4, cond_true]
          refine slv_aload_n eX12_hidden_0 rfl ?_
          refine slv_iconst (v := nI 0) eX12_hidden_1 (by decide) ?_
          refine slr_pi eX12_hidden_2 fX12_149 (Nat.le_of_ble_eq_true rfl) rf_s0 ?_
          refine slv_aload_n eX12_hidden_5 rfl ?_
          refine slr_gi eX12_hidden_6 fX12_317 rfl (by repeat (first | exact sl_u_eq | assumption | apply rf_ne (by decide) | exact rfl)) ?_
          refine slv_if_neB eX12_hidden_9 (fun h9 => ?_) (fun h9 => absurd h9 (by decide))
          refine slv_iload_n eX12_hidden_18 rfl ?_
          refine slv_iconst (v := nI 1) eX12_hidden_19 (by decide) ?_
          refine slv_icmp_eq eX12_hidden_20 (fun h20 => absurd h20 h1) (fun h20 => ?_)
          refine slv_iload_n eX12_hidden_23 rfl ?_
          refine slv_iconst (v := nI 2) eX12_hidden_24 (by decide) ?_
          refine slv_icmp_eq eX12_hidden_25 (fun h25 => absurd h25 h2) (fun h25 => ?_)
          refine slv_iload_n eX12_hidden_28 rfl ?_
          refine slv_iconst (v := nI 4) eX12_hidden_29 (by decide) ?_
          refine slv_icmp_eq eX12_hidden_30 (fun h30 => ?_) (fun h30 => absurd h4 h30)
          exact main _ _ _ _ ⟨rfl, rfl⟩
        · rw [decide_eq_false h4, cond_false]
          refine slv_aload_n eX12_hidden_0 rfl ?_
          refine slv_iconst (v := nI 0) eX12_hidden_1 (by decide) ?_
          refine slr_pi eX12_hidden_2 fX12_149 (Nat.le_of_ble_eq_true rfl) rf_s0 ?_
          refine slv_aload_n eX12_hidden_5 rfl ?_
          refine slr_gi eX12_hidden_6 fX12_317 rfl (by repeat (first | exact sl_u_eq | assumption | apply rf_ne (by decide) | exact rfl)) ?_
          refine slv_if_neB eX12_hidden_9 (fun h9 => ?_) (fun h9 => absurd h9 (by decide))
          refine slv_iload_n eX12_hidden_18 rfl ?_
          refine slv_iconst (v := nI 1) eX12_hidden_19 (by decide) ?_
          refine slv_icmp_eq eX12_hidden_20 (fun h20 => absurd h20 h1) (fun h20 => ?_)
          refine slv_iload_n eX12_hidden_23 rfl ?_
          refine slv_iconst (v := nI 2) eX12_hidden_24 (by decide) ?_
          refine slv_icmp_eq eX12_hidden_25 (fun h25 => absurd h25 h2) (fun h25 => ?_)
          refine slv_iload_n eX12_hidden_28 rfl ?_
          refine slv_iconst (v := nI 4) eX12_hidden_29 (by decide) ?_
          refine slv_icmp_eq eX12_hidden_30 (fun h30 => absurd h30 h4) (fun h30 => ?_)
          refine slv_aload_n eX12_hidden_33 rfl ?_
          refine slv_iconst (v := nI 2) eX12_hidden_34 (by decide) ?_
          refine slv_rV (As := [_]) eX12_hidden_35 lX12_155 rfl rfl rf_68 rfl (c_X12_refused 2) (by decide) (Nat.le_of_ble_eq_true rfl) ?_
          refine slv_iret eX12_hidden_38 rfl ?_
          exact ⟨rfl, rfl⟩
end RLD
