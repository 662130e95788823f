/-! the reference: what it answers of relations and doubles -/
theorem sl_ct_app (p : Nat → Bool) (n m : Nat) : ∀ i, sl_ct p (n + m) i = sl_ct p n i + sl_ct p m (i + n) := by
  induction n with
  | zero => intro i; simp [sl_ct]
  | succ n ih =>
    intro i
    rw [show n + 1 + m = (n + m) + 1 by omega]
    simp only [sl_ct]
    rw [ih (i + 1), show i + 1 + n = i + (n + 1) by omega]
    omega
theorem sl_ct_zero {p : Nat → Bool} (n : Nat) : ∀ i, (∀ k, i ≤ k → k < i + n → p k = false) → sl_ct p n i = 0 := by
  induction n with
  | zero => intro i _; rfl
  | succ n ih =>
    intro i h
    simp only [sl_ct]
    rw [h i (Nat.le_refl i) (by omega), ih (i + 1) (fun k h1 h2 => h k (by omega) (by omega))]
    rfl
theorem sl_ct_sh (p : Nat → Bool) (c n : Nat) : ∀ i, sl_ct p n (c + i) = sl_ct (fun y => p (c + y)) n i := by
  induction n with
  | zero => intro i; rfl
  | succ n ih =>
    intro i
    simp only [sl_ct]
    rw [show c + i + 1 = c + (i + 1) by omega, ih (i + 1)]
/-- places (x, y) with both at most e, counted -/
def rf_n2 (p : Nat → Bool) (e n i m : Nat) : Nat := sl_fo (fun x acc => acc + sl_ct (fun y => p (12 * x + y)) (e + 1) 0) n i m
theorem rf_n2_row {p : Nat → Bool} {e x : Nat} (he : e ≤ 11) (hx : x < 12) (h : ∀ x y, x < 12 → y < 12 → (e < x ∨ e < y) → p (12 * x + y) = false) : sl_ct (fun y => p (12 * x + y)) (e + 1) 0 = sl_ct p 12 (12 * x) := by
  have h1 : sl_ct p 12 (12 * x) = sl_ct (fun y => p (12 * x + y)) 12 0 := sl_ct_sh p (12 * x) 12 0
  have h2 := sl_ct_app (fun y => p (12 * x + y)) (e + 1) (11 - e) 0
  rw [show e + 1 + (11 - e) = 12 by omega, sl_ct_zero (11 - e) (0 + (e + 1)) (fun k h2 h3 => h x k hx (by omega) (Or.inr (by omega)))] at h2
  rw [h1, h2]
  rfl
theorem rf_n2_go {p : Nat → Bool} {e : Nat} (he : e ≤ 11) (h : ∀ x y, x < 12 → y < 12 → (e < x ∨ e < y) → p (12 * x + y) = false) (n : Nat) : ∀ i m, i + n ≤ 12 → rf_n2 p e n i m = m + sl_ct p (12 * n) (12 * i) := by
  induction n with
  | zero => intro i m _; rfl
  | succ n ih =>
    intro i m hi
    show rf_n2 p e n (i + 1) (m + sl_ct (fun y => p (12 * i + y)) (e + 1) 0) = _
    rw [ih (i + 1) _ (by omega), rf_n2_row he (by omega) h, show 12 * (n + 1) = 12 + 12 * n by omega, sl_ct_app, show 12 * (i + 1) = 12 * i + 12 by omega]
    omega
theorem rf_n2_eq {p : Nat → Bool} {e : Nat} (he : e ≤ 11) (h : ∀ x y, x < 12 → y < 12 → (e < x ∨ e < y) → p (12 * x + y) = false) : rf_n2 p e (e + 1) 0 0 = sl_ct p 144 0 := by
  have h2 := sl_ct_app p (12 * (e + 1)) (12 * (11 - e)) 0
  rw [show 12 * (e + 1) + 12 * (11 - e) = 144 by omega, sl_ct_zero (12 * (11 - e)) (0 + 12 * (e + 1)) (fun k h2 h3 => by
    have := h (k / 12) (k % 12) (by omega) (by omega) (Or.inl (by omega))
    rwa [show 12 * (k / 12) + k % 12 = k by omega] at this)] at h2
  rw [rf_n2_go he h (e + 1) 0 0 (by omega), h2, Nat.zero_add]
  rfl
/-- the reference holds edges l, t and relations s -/
def rf_R (l t s : Nat → Int32) (a : Nat → Nat → Int32) : Prop := (∀ i, i < 6 → a 36 i = l i ∧ a 37 i = t i) ∧ ∀ i, i < 144 → a 38 i = s i
/-- nothing beyond the end, sums of 1, 2, 4 -/
def rl_z (e : Nat) (s : Nat → Int32) : Prop := (∀ x y, x < 12 → y < 12 → (e < x ∨ e < y) → s (12 * x + y) = nI 0) ∧ ∀ i, ∃ k, k < 8 ∧ s i = nI k
theorem cl_8 : ∀ k, k < 8 → (decide ((nI k &&& (nI k - nI 1)) = 0)) = !(sl_cl (nI k)) := by decide +kernel
section RRL
variable {v : Nat → Int32} {w : Int64} {a : Nat → Nat → Int32} {nm : Nat → Int64} {M : sl_M} {g : sg_T} {sn : Bool} {l t s : Nat → Int32}
set_option maxRecDepth 100000 in
theorem c_X12_edge (h21 : v 21 = sl_bi sn) (hok : sg_ok g) (hG : sn = true → rf_G g v a) (hR : sn = true → rf_R l t s a) (x w' : Int32) : sl_R YX12_edge 1 [.ref 68, .int x, .int w'] (rf_S v w a nm M) (some (.int (an_edge sn g l t x w').1)) (rf_S (rf_an v (an_edge sn g l t x w').2) w a nm M) := by
  have hn6 : sg_names g ≤ 6 := hok.2.2.1
  refine sl_T.of_V (lv := [_, _, _]) (by decide) rfl (Nat.le_of_ble_eq_true rfl) ?_
  unfold an_edge
  cases sn with
  | false =>
    refine slv_aload_n eX12_edge_0 rfl ?_
    refine slv_iconst (v := nI 0) eX12_edge_1 (by decide) ?_
    refine slr_pi eX12_edge_2 fX12_149 (Nat.le_of_ble_eq_true rfl) rf_s0 ?_
    refine slv_aload_n eX12_edge_5 rfl ?_
    refine slr_gi eX12_edge_6 fX12_317 rfl (by repeat (first | exact sl_u_eq | assumption | apply rf_ne (by decide) | exact rfl)) ?_
    refine slv_if_eqB eX12_edge_9 (fun h9 => ?_) (fun h9 => absurd h9 (by decide))
    refine slv_aload_n eX12_edge_35 rfl ?_
    refine slv_iconst (v := nI 1) eX12_edge_36 (by decide) ?_
    refine slv_rV (As := [_]) eX12_edge_37 lX12_155 rfl rfl rf_68 rfl (c_X12_refused 1) (by decide) (Nat.le_of_ble_eq_true rfl) ?_
    refine slv_iret eX12_edge_40 rfl ?_
    exact ⟨rfl, rfl⟩
  | true =>
    obtain ⟨h14, h15, h16, h22, hr, hi, ht⟩ := hG rfl
    obtain ⟨he, hs⟩ := hR rfl
    have hI := c_X12_in0 (rf_S (sl_u v 0 (nI 0)) w a nm M) x (n := sg_names g) (by omega)
    rw [show sl_vr true x (sg_names g) = sl_vi x (sg_names g) from rfl]
    cases hq : sl_vi x (sg_names g) with
    | none =>
      rw [hq] at hI
      refine slv_aload_n eX12_edge_0 rfl ?_
      refine slv_iconst (v := nI 0) eX12_edge_1 (by decide) ?_
      refine slr_pi eX12_edge_2 fX12_149 (Nat.le_of_ble_eq_true rfl) rf_s0 ?_
      refine slv_aload_n eX12_edge_5 rfl ?_
      refine slr_gi eX12_edge_6 fX12_317 rfl (by repeat (first | exact sl_u_eq | assumption | apply rf_ne (by decide) | exact rfl)) ?_
      refine slv_if_eqB eX12_edge_9 (fun h9 => absurd h9 (by decide)) (fun h9 => ?_)
      refine slv_iload_n eX12_edge_12 rfl ?_
      refine slv_iconst (v := nI 0) eX12_edge_13 (by decide) ?_
      refine slv_aload_n eX12_edge_14 rfl ?_
      refine slr_gi eX12_edge_15 fX12_321 rfl (by repeat (first | exact sl_u_eq | assumption | apply rf_ne (by decide) | exact rfl)) ?_
      refine slv_iconst (v := nI 1) eX12_edge_18 (by decide) ?_
      refine slv_isub eX12_edge_19 ?_
      refine slv_rS (As := [_, _, _]) eX12_edge_20 lX12_180 rfl rfl hI (by decide) (Nat.le_of_ble_eq_true rfl) ?_
      refine slv_if_eqB eX12_edge_23 (fun h23 => ?_) (fun h23 => absurd h23 (by decide))
      refine slv_aload_n eX12_edge_35 rfl ?_
      refine slv_iconst (v := nI 1) eX12_edge_36 (by decide) ?_
      refine slv_rV (As := [_]) eX12_edge_37 lX12_155 rfl rfl rf_68 rfl (c_X12_refused 1) (by decide) (Nat.le_of_ble_eq_true rfl) ?_
      refine slv_iret eX12_edge_40 rfl ?_
      exact ⟨rfl, rfl⟩
    | some k =>
      rw [hq] at hI
      obtain ⟨hx, hk⟩ := vi_some hq
      subst hx
      have hJ := c_X12_in1 (rf_S (sl_u v 0 (nI 0)) w a nm M) w' (n := 1) (by omega)
      simp only
      cases hv : sl_vi w' 2 with
      | none =>
        rw [hv] at hJ
        refine slv_aload_n eX12_edge_0 rfl ?_
        refine slv_iconst (v := nI 0) eX12_edge_1 (by decide) ?_
        refine slr_pi eX12_edge_2 fX12_149 (Nat.le_of_ble_eq_true rfl) rf_s0 ?_
        refine slv_aload_n eX12_edge_5 rfl ?_
        refine slr_gi eX12_edge_6 fX12_317 rfl (by repeat (first | exact sl_u_eq | assumption | apply rf_ne (by decide) | exact rfl)) ?_
        refine slv_if_eqB eX12_edge_9 (fun h9 => absurd h9 (by decide)) (fun h9 => ?_)
        refine slv_iload_n eX12_edge_12 rfl ?_
        refine slv_iconst (v := nI 0) eX12_edge_13 (by decide) ?_
        refine slv_aload_n eX12_edge_14 rfl ?_
        refine slr_gi eX12_edge_15 fX12_321 rfl (by repeat (first | exact sl_u_eq | assumption | apply rf_ne (by decide) | exact rfl)) ?_
        refine slv_iconst (v := nI 1) eX12_edge_18 (by decide) ?_
        refine slv_isub eX12_edge_19 ?_
        refine slv_rS (As := [_, _, _]) eX12_edge_20 lX12_180 rfl rfl hI (by decide) (Nat.le_of_ble_eq_true rfl) ?_
        refine slv_if_eqB eX12_edge_23 (fun h23 => absurd h23 sl_tf) (fun h23 => ?_)
        refine slv_iload_n eX12_edge_26 rfl ?_
        refine slv_iconst (v := nI 0) eX12_edge_27 (by decide) ?_
        refine slv_iconst (v := nI 1) eX12_edge_28 (by decide) ?_
        refine slv_rS (As := [_, _, _]) eX12_edge_29 lX12_180 rfl rfl hJ (by decide) (Nat.le_of_ble_eq_true rfl) ?_
        refine slv_if_neB eX12_edge_32 (fun h32 => absurd h32 (by decide)) (fun h32 => ?_)
        refine slv_aload_n eX12_edge_35 rfl ?_
        refine slv_iconst (v := nI 1) eX12_edge_36 (by decide) ?_
        refine slv_rV (As := [_]) eX12_edge_37 lX12_155 rfl rfl rf_68 rfl (c_X12_refused 1) (by decide) (Nat.le_of_ble_eq_true rfl) ?_
        refine slv_iret eX12_edge_40 rfl ?_
        exact ⟨rfl, rfl⟩
      | some j =>
        rw [hv] at hJ
        obtain ⟨hx, hj⟩ := vi_some hv
        subst hx
        rcases (show j = 0 ∨ j = 1 by omega) with e | e <;> subst e
        · refine slv_aload_n eX12_edge_0 rfl ?_
          refine slv_iconst (v := nI 0) eX12_edge_1 (by decide) ?_
          refine slr_pi eX12_edge_2 fX12_149 (Nat.le_of_ble_eq_true rfl) rf_s0 ?_
          refine slv_aload_n eX12_edge_5 rfl ?_
          refine slr_gi eX12_edge_6 fX12_317 rfl (by repeat (first | exact sl_u_eq | assumption | apply rf_ne (by decide) | exact rfl)) ?_
          refine slv_if_eqB eX12_edge_9 (fun h9 => absurd h9 (by decide)) (fun h9 => ?_)
          refine slv_iload_n eX12_edge_12 rfl ?_
          refine slv_iconst (v := nI 0) eX12_edge_13 (by decide) ?_
          refine slv_aload_n eX12_edge_14 rfl ?_
          refine slr_gi eX12_edge_15 fX12_321 rfl (by repeat (first | exact sl_u_eq | assumption | apply rf_ne (by decide) | exact rfl)) ?_
          refine slv_iconst (v := nI 1) eX12_edge_18 (by decide) ?_
          refine slv_isub eX12_edge_19 ?_
          refine slv_rS (As := [_, _, _]) eX12_edge_20 lX12_180 rfl rfl hI (by decide) (Nat.le_of_ble_eq_true rfl) ?_
          refine slv_if_eqB eX12_edge_23 (fun h23 => absurd h23 sl_tf) (fun h23 => ?_)
          refine slv_iload_n eX12_edge_26 rfl ?_
          refine slv_iconst (v := nI 0) eX12_edge_27 (by decide) ?_
          refine slv_iconst (v := nI 1) eX12_edge_28 (by decide) ?_
          refine slv_rS (As := [_, _, _]) eX12_edge_29 lX12_180 rfl rfl hJ (by decide) (Nat.le_of_ble_eq_true rfl) ?_
          refine slv_if_neB eX12_edge_32 (fun h32 => ?_) (fun h32 => absurd h32 sl_tf)
          refine slv_aload_n eX12_edge_41 rfl ?_
          refine slv_iload_n eX12_edge_42 rfl ?_
          refine slv_if_ne eX12_edge_43 (fun h43 => absurd rfl h43) (fun h43 => ?_)
          refine slv_aload_n eX12_edge_46 rfl ?_
          refine slr_ga (p := 83) eX12_edge_47 fX12_58 rfl ?_
          refine slv_iload_n eX12_edge_50 rfl ?_
          refine slr_ialdX (k := 36) (p := 83) (len := 6) eX12_edge_51 rfl (by repeat (first | exact sl_u_eq | assumption | apply rf_ne (by decide) | exact rfl)) (by omega) (by decide) (he k (by omega)).1 ?_
          refine slv_goto eX12_edge_52 ?_
          refine slv_rV (As := [_]) eX12_edge_61 lX12_314 rfl rfl rf_68 rfl (c_X12_good _) (by decide) (Nat.le_of_ble_eq_true rfl) ?_
          refine slv_iret eX12_edge_64 rfl ?_
          exact ⟨rfl, rfl⟩
        · refine slv_aload_n eX12_edge_0 rfl ?_
          refine slv_iconst (v := nI 0) eX12_edge_1 (by decide) ?_
          refine slr_pi eX12_edge_2 fX12_149 (Nat.le_of_ble_eq_true rfl) rf_s0 ?_
          refine slv_aload_n eX12_edge_5 rfl ?_
          refine slr_gi eX12_edge_6 fX12_317 rfl (by repeat (first | exact sl_u_eq | assumption | apply rf_ne (by decide) | exact rfl)) ?_
          refine slv_if_eqB eX12_edge_9 (fun h9 => absurd h9 (by decide)) (fun h9 => ?_)
          refine slv_iload_n eX12_edge_12 rfl ?_
          refine slv_iconst (v := nI 0) eX12_edge_13 (by decide) ?_
          refine slv_aload_n eX12_edge_14 rfl ?_
          refine slr_gi eX12_edge_15 fX12_321 rfl (by repeat (first | exact sl_u_eq | assumption | apply rf_ne (by decide) | exact rfl)) ?_
          refine slv_iconst (v := nI 1) eX12_edge_18 (by decide) ?_
          refine slv_isub eX12_edge_19 ?_
          refine slv_rS (As := [_, _, _]) eX12_edge_20 lX12_180 rfl rfl hI (by decide) (Nat.le_of_ble_eq_true rfl) ?_
          refine slv_if_eqB eX12_edge_23 (fun h23 => absurd h23 sl_tf) (fun h23 => ?_)
          refine slv_iload_n eX12_edge_26 rfl ?_
          refine slv_iconst (v := nI 0) eX12_edge_27 (by decide) ?_
          refine slv_iconst (v := nI 1) eX12_edge_28 (by decide) ?_
          refine slv_rS (As := [_, _, _]) eX12_edge_29 lX12_180 rfl rfl hJ (by decide) (Nat.le_of_ble_eq_true rfl) ?_
          refine slv_if_neB eX12_edge_32 (fun h32 => ?_) (fun h32 => absurd h32 sl_tf)
          refine slv_aload_n eX12_edge_41 rfl ?_
          refine slv_iload_n eX12_edge_42 rfl ?_
          refine slv_if_ne eX12_edge_43 (fun h43 => ?_) (fun h43 => absurd h43 (by decide))
          refine slv_aload_n eX12_edge_55 rfl ?_
          refine slr_ga (p := 84) eX12_edge_56 fX12_61 rfl ?_
          refine slv_iload_n eX12_edge_59 rfl ?_
          refine slr_ialdX (k := 37) (p := 84) (len := 6) eX12_edge_60 rfl (by repeat (first | exact sl_u_eq | assumption | apply rf_ne (by decide) | exact rfl)) (by omega) (by decide) (he k (by omega)).2 ?_
          refine slv_rV (As := [_]) eX12_edge_61 lX12_314 rfl rfl rf_68 rfl (c_X12_good _) (by decide) (Nat.le_of_ble_eq_true rfl) ?_
          refine slv_iret eX12_edge_64 rfl ?_
          exact ⟨rfl, rfl⟩
set_option maxRecDepth 100000 in
theorem c_X12_relation (h21 : v 21 = sl_bi sn) (hok : sg_ok g) (hG : sn = true → rf_G g v a) (hR : sn = true → rf_R l t s a) (x y : Int32) : sl_R YX12_relation 2 [.ref 68, .int x, .int y] (rf_S v w a nm M) (some (.int (an_relation sn g s x y).1)) (rf_S (rf_an v (an_relation sn g s x y).2) w a nm M) := by
  have ht11 : sg_terms g ≤ 11 := hok.2.2.2.1
  have hT := fun x => c_X12_isTerminal (v := sl_u v 0 (nI 0)) (w := w) (a := a) (nm := nm) (M := M) (n := sg_terms g) ((sl_u_ne (by decide)).trans h21) (fun q => (sl_u_ne (by decide)).trans (hG q).2.2.1) (by omega) x
  have hT1 := hT x
  have hT2 := hT y
  refine sl_T.of_V (lv := [_, _, _]) (by decide) rfl (Nat.le_of_ble_eq_true rfl) ?_
  unfold an_relation
  cases hq : sl_vr sn x (sg_terms g + 1) with
  | none =>
    rw [hq] at hT1
    refine slv_aload_n eX12_relation_0 rfl ?_
    refine slv_iconst (v := nI 0) eX12_relation_1 (by decide) ?_
    refine slr_pi eX12_relation_2 fX12_149 (Nat.le_of_ble_eq_true rfl) rf_s0 ?_
    refine slv_aload_n eX12_relation_5 rfl ?_
    refine slv_iload_n eX12_relation_6 rfl ?_
    refine slv_rV (As := [_]) eX12_relation_7 lX12_354 rfl rfl rf_68 rfl hT1 (by decide) (Nat.le_of_ble_eq_true rfl) ?_
    refine slv_if_eqB eX12_relation_10 (fun h10 => ?_) (fun h10 => absurd h10 (by decide))
    refine slv_aload_n eX12_relation_34 rfl ?_
    refine slv_iconst (v := nI 1) eX12_relation_35 (by decide) ?_
    refine slv_rV (As := [_]) eX12_relation_36 lX12_155 rfl rfl rf_68 rfl (c_X12_refused 1) (by decide) (Nat.le_of_ble_eq_true rfl) ?_
    refine slv_iret eX12_relation_39 rfl ?_
    exact ⟨rfl, rfl⟩
  | some k =>
    rw [hq] at hT1
    obtain ⟨hs, hx, hk⟩ := vr_some hq
    subst hs hx
    cases hv : sl_vr true y (sg_terms g + 1) with
    | none =>
      rw [hv] at hT2
      refine slv_aload_n eX12_relation_0 rfl ?_
      refine slv_iconst (v := nI 0) eX12_relation_1 (by decide) ?_
      refine slr_pi eX12_relation_2 fX12_149 (Nat.le_of_ble_eq_true rfl) rf_s0 ?_
      refine slv_aload_n eX12_relation_5 rfl ?_
      refine slv_iload_n eX12_relation_6 rfl ?_
      refine slv_rV (As := [_]) eX12_relation_7 lX12_354 rfl rfl rf_68 rfl hT1 (by decide) (Nat.le_of_ble_eq_true rfl) ?_
      refine slv_if_eqB eX12_relation_10 (fun h10 => absurd h10 sl_tf) (fun h10 => ?_)
      refine slv_aload_n eX12_relation_13 rfl ?_
      refine slv_iload_n eX12_relation_14 rfl ?_
      refine slv_rV (As := [_]) eX12_relation_15 lX12_354 rfl rfl rf_68 rfl hT2 (by decide) (Nat.le_of_ble_eq_true rfl) ?_
      refine slv_if_eqB eX12_relation_18 (fun h18 => ?_) (fun h18 => absurd h18 (by decide))
      refine slv_aload_n eX12_relation_34 rfl ?_
      refine slv_iconst (v := nI 1) eX12_relation_35 (by decide) ?_
      refine slv_rV (As := [_]) eX12_relation_36 lX12_155 rfl rfl rf_68 rfl (c_X12_refused 1) (by decide) (Nat.le_of_ble_eq_true rfl) ?_
      refine slv_iret eX12_relation_39 rfl ?_
      exact ⟨rfl, rfl⟩
    | some j =>
      rw [hv] at hT2
      obtain ⟨-, hx, hj⟩ := vr_some hv
      subst hx
      have hA := c_X12_relationOf (v := sl_u v 0 (nI 0)) (w := w) (a := a) (nm := nm) (M := M) (x := k) (y := j) (by omega)
      rw [(hR rfl).2 _ (by omega)] at hA
      refine slv_aload_n eX12_relation_0 rfl ?_
      refine slv_iconst (v := nI 0) eX12_relation_1 (by decide) ?_
      refine slr_pi eX12_relation_2 fX12_149 (Nat.le_of_ble_eq_true rfl) rf_s0 ?_
      refine slv_aload_n eX12_relation_5 rfl ?_
      refine slv_iload_n eX12_relation_6 rfl ?_
      refine slv_rV (As := [_]) eX12_relation_7 lX12_354 rfl rfl rf_68 rfl hT1 (by decide) (Nat.le_of_ble_eq_true rfl) ?_
      refine slv_if_eqB eX12_relation_10 (fun h10 => absurd h10 sl_tf) (fun h10 => ?_)
      refine slv_aload_n eX12_relation_13 rfl ?_
      refine slv_iload_n eX12_relation_14 rfl ?_
      refine slv_rV (As := [_]) eX12_relation_15 lX12_354 rfl rfl rf_68 rfl hT2 (by decide) (Nat.le_of_ble_eq_true rfl) ?_
      refine slv_if_eqB eX12_relation_18 (fun h18 => absurd h18 sl_tf) (fun h18 => ?_)
      refine slv_aload_n eX12_relation_21 rfl ?_
      refine slv_aload_n eX12_relation_22 rfl ?_
      refine slv_iload_n eX12_relation_23 rfl ?_
      refine slv_iload_n eX12_relation_24 rfl ?_
      refine slv_rV (As := [_, _]) eX12_relation_25 lX12_371 rfl rfl rf_68 rfl hA (by decide) (Nat.le_of_ble_eq_true rfl) ?_
      refine slv_rV (As := [_]) eX12_relation_28 lX12_314 rfl rfl rf_68 rfl (c_X12_good _) (by decide) (Nat.le_of_ble_eq_true rfl) ?_
      refine slv_goto eX12_relation_31 ?_
      refine slv_iret eX12_relation_39 rfl ?_
      exact ⟨rfl, rfl⟩
set_option maxRecDepth 100000 in
theorem c_X12_related (h21 : v 21 = sl_bi sn) (hok : sg_ok g) (hG : sn = true → rf_G g v a) (hR : sn = true → rf_R l t s a) (hz : sn = true → rl_z (sg_terms g) s) (x : Int32) : sl_R YX12_related 1 [.ref 68, .int x] (rf_S v w a nm M) (some (.int (an_related sn s x).1)) (rf_S (rf_an v (an_related sn s x).2) w a nm M) := by
  have ht11 : sg_terms g ≤ 11 := hok.2.2.2.1
  refine sl_T.of_V (lv := [_, _, _, _, _]) (by decide) rfl (Nat.le_of_ble_eq_true rfl) ?_
  unfold an_related
  cases sn with
  | false =>
    refine slv_aload_n eX12_related_0 rfl ?_
    refine slv_iconst (v := nI 0) eX12_related_1 (by decide) ?_
    refine slr_pi eX12_related_2 fX12_149 (Nat.le_of_ble_eq_true rfl) rf_s0 ?_
    refine slv_aload_n eX12_related_5 rfl ?_
    refine slr_gi eX12_related_6 fX12_317 rfl (by repeat (first | exact sl_u_eq | assumption | apply rf_ne (by decide) | exact rfl)) ?_
    refine slv_if_neB eX12_related_9 (fun h9 => absurd h9 (by decide)) (fun h9 => ?_)
    refine slv_aload_n eX12_related_12 rfl ?_
    refine slv_iconst (v := nI 1) eX12_related_13 (by decide) ?_
    refine slv_rV (As := [_]) eX12_related_14 lX12_155 rfl rfl rf_68 rfl (c_X12_refused 1) (by decide) (Nat.le_of_ble_eq_true rfl) ?_
    refine slv_iret eX12_related_17 rfl ?_
    exact ⟨rfl, rfl⟩
  | true =>
    obtain ⟨h14, h15, h16, h22, hr, hi, ht⟩ := hG rfl
    rw [cond_true, ← rf_n2_eq ht11 (fun x' y' hx hy h => by rw [(hz rfl).1 x' y' hx hy h]; simp [nI])]
    have hA := fun (x y : Nat) (hx : x < 12) (hy : y < 12) => (show sl_R YX12_relationOf 0 [.ref 68, .int (nI x), .int (nI y)] (rf_S (sl_u v 0 (nI 0)) w a nm M) (some (.int (s (12 * x + y)))) (rf_S (sl_u v 0 (nI 0)) w a nm M) from by
      have := c_X12_relationOf (v := sl_u v 0 (nI 0)) (w := w) (a := a) (nm := nm) (M := M) (x := x) (y := y) (by omega)
      rwa [(hR rfl).2 _ (by omega)] at this)
    generalize sg_terms g = e at *
    have row : ∀ (m i acc xx : Nat), i + m = e + 1 → xx ≤ e → ∀ Q : Option Value → sl_M → Prop, sl_V YX12_related none 1 0 0 Q 89 [some (.ref 68), some (.int x), some (.int (nI (acc + sl_ct (fun y => !(decide (s (12 * xx + y) &&& x = 0))) m i))), some (.int (nI xx)), some (.int (nI (e + 1)))] [] (rf_S (sl_u v 0 (nI 0)) w a nm M) → sl_V YX12_related none 1 0 0 Q 54 [some (.ref 68), some (.int x), some (.int (nI acc)), some (.int (nI xx)), some (.int (nI i))] [] (rf_S (sl_u v 0 (nI 0)) w a nm M) := by
      intro m
      induction m with
      | zero =>
        intro i acc xx hi hx Q hQ
        have hi' : i = e + 1 := by omega
        subst hi'
        refine slv_iload eX12_related_54 rfl ?_
        refine slv_aload_n eX12_related_56 rfl ?_
        refine slr_gi eX12_related_57 fX12_324 rfl (by repeat (first | exact sl_u_eq | assumption | apply rf_ne (by decide) | exact rfl)) ?_
        refine slv_icmp_gtN eX12_related_60 (by omega) (by omega) (fun h60 => ?_) (fun h60 => absurd h60 (by omega))
        exact hQ
      | succ m ih =>
        intro i acc xx hi hx Q hQ
        refine slv_iload eX12_related_54 rfl ?_
        refine slv_aload_n eX12_related_56 rfl ?_
        refine slr_gi eX12_related_57 fX12_324 rfl (by repeat (first | exact sl_u_eq | assumption | apply rf_ne (by decide) | exact rfl)) ?_
        refine slv_icmp_gtN eX12_related_60 (by omega) (by omega) (fun h60 => absurd h60 (by omega)) (fun h60 => ?_)
        refine slv_iload_n eX12_related_63 rfl ?_
        refine slv_aload_n eX12_related_64 rfl ?_
        refine slv_iload_n eX12_related_65 rfl ?_
        refine slv_iload eX12_related_66 rfl ?_
        refine slv_rV (As := [_, _]) eX12_related_68 lX12_371 rfl rfl rf_68 rfl (hA xx i (by omega) (by omega)) (by decide) (Nat.le_of_ble_eq_true rfl) ?_
        refine slv_iload_n eX12_related_71 rfl ?_
        refine slv_iand eX12_related_72 ?_
        refine slv_if_eq eX12_related_73 (fun h73 => ?_) (fun h73 => ?_)
        · refine slv_iconst (v := nI 0) eX12_related_80 (by decide) ?_
          refine slv_iaddN eX12_related_81 ?_
          refine slv_istore_n (i := 2) (lv' := [_, _, _, _, _]) eX12_related_82 rfl (by decide) rfl ?_
          refine slv_iincN (lv' := [_, _, _, _, _]) eX12_related_83 rfl (by decide) rfl ?_
          refine slv_goto eX12_related_86 ?_
          refine ih (i + 1) _ xx (by omega) hx Q ?_
          first | (simp only [sl_ct, decide_eq_true h73, Bool.not_true, cond_false] at hQ; rw [Nat.zero_add] at hQ; exact hQ) | (simp only [sl_ct, decide_eq_false h73, Bool.not_false, cond_true] at hQ; rw [← Nat.add_assoc] at hQ; exact hQ)
        · refine slv_iconst (v := nI 1) eX12_related_76 (by decide) ?_
          refine slv_goto eX12_related_77 ?_
          refine slv_iaddN eX12_related_81 ?_
          refine slv_istore_n (i := 2) (lv' := [_, _, _, _, _]) eX12_related_82 rfl (by decide) rfl ?_
          refine slv_iincN (lv' := [_, _, _, _, _]) eX12_related_83 rfl (by decide) rfl ?_
          refine slv_goto eX12_related_86 ?_
          refine ih (i + 1) _ xx (by omega) hx Q ?_
          first | (simp only [sl_ct, decide_eq_true h73, Bool.not_true, cond_false] at hQ; rw [Nat.zero_add] at hQ; exact hQ) | (simp only [sl_ct, decide_eq_false h73, Bool.not_false, cond_true] at hQ; rw [← Nat.add_assoc] at hQ; exact hQ)
    have rows : ∀ (m i acc : Nat) (y : Option Value), i + m = e + 1 → ∀ Q : Option Value → sl_M → Prop, Q (some (.int (nI (rf_n2 (fun p => !(decide (s p &&& x = 0))) e m i acc)))) (rf_S (rf_an v 0) w a nm M) → sl_V YX12_related none 1 0 0 Q 43 [some (.ref 68), some (.int x), some (.int (nI acc)), some (.int (nI i)), y] [] (rf_S (sl_u v 0 (nI 0)) w a nm M) := by
      intro m
      induction m with
      | zero =>
        intro i acc y hi Q hQ
        refine slv_iload_n eX12_related_43 rfl ?_
        refine slv_aload_n eX12_related_44 rfl ?_
        refine slr_gi eX12_related_45 fX12_324 rfl (by repeat (first | exact sl_u_eq | assumption | apply rf_ne (by decide) | exact rfl)) ?_
        refine slv_icmp_gtN eX12_related_48 (by omega) (by omega) (fun h48 => ?_) (fun h48 => absurd h48 (by omega))
        refine slv_aload_n eX12_related_95 rfl ?_
        refine slv_iload_n eX12_related_96 rfl ?_
        refine slv_rV (As := [_]) eX12_related_97 lX12_314 rfl rfl rf_68 rfl (c_X12_good _) (by decide) (Nat.le_of_ble_eq_true rfl) ?_
        refine slv_iret eX12_related_100 rfl ?_
        exact hQ
      | succ m ih =>
        intro i acc y hi Q hQ
        refine slv_iload_n eX12_related_43 rfl ?_
        refine slv_aload_n eX12_related_44 rfl ?_
        refine slr_gi eX12_related_45 fX12_324 rfl (by repeat (first | exact sl_u_eq | assumption | apply rf_ne (by decide) | exact rfl)) ?_
        refine slv_icmp_gtN eX12_related_48 (by omega) (by omega) (fun h48 => absurd h48 (by omega)) (fun h48 => ?_)
        refine slv_iconst (v := nI 0) eX12_related_51 (by decide) ?_
        refine slv_istore (lv' := [_, _, _, _, _]) eX12_related_52 (by decide) rfl ?_
        refine row (e + 1) 0 acc i (by omega) (by omega) Q ?_
        refine slv_iincN (lv' := [_, _, _, _, _]) eX12_related_89 rfl (by decide) rfl ?_
        refine slv_goto eX12_related_92 ?_
        exact ih (i + 1) _ _ (by omega) Q hQ
    unfold an_isr
    by_cases h1 : x = nI 1
    · rw [decide_eq_true h1, Bool.true_or, cond_true]
      refine slv_aload_n eX12_related_0 rfl ?_
      refine slv_iconst (v := nI 0) eX12_related_1 (by decide) ?_
      refine slr_pi eX12_related_2 fX12_149 (Nat.le_of_ble_eq_true rfl) rf_s0 ?_
      refine slv_aload_n eX12_related_5 rfl ?_
      refine slr_gi eX12_related_6 fX12_317 rfl (by repeat (first | exact sl_u_eq | assumption | apply rf_ne (by decide) | exact rfl)) ?_
      refine slv_if_neB eX12_related_9 (fun h9 => ?_) (fun h9 => absurd h9 (by decide))
      refine slv_iload_n eX12_related_18 rfl ?_
      refine slv_iconst (v := nI 1) eX12_related_19 (by decide) ?_
      refine slv_icmp_eq eX12_related_20 (fun h20 => ?_) (fun h20 => absurd h1 h20)
      refine slv_iconst (v := nI 0) eX12_related_39 (by decide) ?_
      refine slv_istore_n (i := 2) (lv' := [_, _, _, _, _]) eX12_related_40 rfl (by decide) rfl ?_
      refine slv_iconst (v := nI 0) eX12_related_41 (by decide) ?_
      refine slv_istore_n (i := 3) (lv' := [_, _, _, _, _]) eX12_related_42 rfl (by decide) rfl ?_
      exact rows (e + 1) 0 0 _ (by omega) _ ⟨rfl, rfl⟩
    · rw [decide_eq_false h1, Bool.false_or]
      by_cases h2 : x = nI 2
      · rw [decide_eq_true h2, Bool.true_or, cond_true]
        refine slv_aload_n eX12_related_0 rfl ?_
        refine slv_iconst (v := nI 0) eX12_related_1 (by decide) ?_
        refine slr_pi eX12_related_2 fX12_149 (Nat.le_of_ble_eq_true rfl) rf_s0 ?_
        refine slv_aload_n eX12_related_5 rfl ?_
        refine slr_gi eX12_related_6 fX12_317 rfl (by repeat (first | exact sl_u_eq | assumption | apply rf_ne (by decide) | exact rfl)) ?_
        refine slv_if_neB eX12_related_9 (fun h9 => ?_) (fun h9 => absurd h9 (by decide))
        refine slv_iload_n eX12_related_18 rfl ?_
        refine slv_iconst (v := nI 1) eX12_related_19 (by decide) ?_
        refine slv_icmp_eq eX12_related_20 (fun h20 => absurd h20 h1) (fun h20 => ?_)
        refine slv_iload_n eX12_related_23 rfl ?_
        refine slv_iconst (v := nI 2) eX12_related_24 (by decide) ?_
        refine slv_icmp_eq eX12_related_25 (fun h25 => ?_) (fun h25 => absurd h2 h25)
        refine slv_iconst (v := nI 0) eX12_related_39 (by decide) ?_
        refine slv_istore_n (i := 2) (lv' := [_, _, _, _, _]) eX12_related_40 rfl (by decide) rfl ?_
        refine slv_iconst (v := nI 0) eX12_related_41 (by decide) ?_
        refine slv_istore_n (i := 3) (lv' := [_, _, _, _, _]) eX12_related_42 rfl (by decide) rfl ?_
        exact rows (e + 1) 0 0 _ (by omega) _ ⟨rfl, rfl⟩
      · rw [decide_eq_false h2, Bool.false_or]
        by_cases h4 : x = nI 4
        · rw [decide_eq_true h4, cond_true]
          refine slv_aload_n eX12_related_0 rfl ?_
          refine slv_iconst (v := nI 0) eX12_related_1 (by decide) ?_
          refine slr_pi eX12_related_2 fX12_149 (Nat.le_of_ble_eq_true rfl) rf_s0 ?_
          refine slv_aload_n eX12_related_5 rfl ?_
          refine slr_gi eX12_related_6 fX12_317 rfl (by repeat (first | exact sl_u_eq | assumption | apply rf_ne (by decide) | exact rfl)) ?_
          refine slv_if_neB eX12_related_9 (fun h9 => ?_) (fun h9 => absurd h9 (by decide))
          refine slv_iload_n eX12_related_18 rfl ?_
          refine slv_iconst (v := nI 1) eX12_related_19 (by decide) ?_
          refine slv_icmp_eq eX12_related_20 (fun h20 => absurd h20 h1) (fun h20 => ?_)
          refine slv_iload_n eX12_related_23 rfl ?_
          refine slv_iconst (v := nI 2) eX12_related_24 (by decide) ?_
          refine slv_icmp_eq eX12_related_25 (fun h25 => absurd h25 h2) (fun h25 => ?_)
          refine slv_iload_n eX12_related_28 rfl ?_
          refine slv_iconst (v := nI 4) eX12_related_29 (by decide) ?_
          refine slv_icmp_eq eX12_related_30 (fun h30 => ?_) (fun h30 => absurd h4 h30)
          refine slv_iconst (v := nI 0) eX12_related_39 (by decide) ?_
          refine slv_istore_n (i := 2) (lv' := [_, _, _, _, _]) eX12_related_40 rfl (by decide) rfl ?_
          refine slv_iconst (v := nI 0) eX12_related_41 (by decide) ?_
          refine slv_istore_n (i := 3) (lv' := [_, _, _, _, _]) eX12_related_42 rfl (by decide) rfl ?_
          exact rows (e + 1) 0 0 _ (by omega) _ ⟨rfl, rfl⟩
        · rw [decide_eq_false h4, cond_false]
          refine slv_aload_n eX12_related_0 rfl ?_
          refine slv_iconst (v := nI 0) eX12_related_1 (by decide) ?_
          refine slr_pi eX12_related_2 fX12_149 (Nat.le_of_ble_eq_true rfl) rf_s0 ?_
          refine slv_aload_n eX12_related_5 rfl ?_
          refine slr_gi eX12_related_6 fX12_317 rfl (by repeat (first | exact sl_u_eq | assumption | apply rf_ne (by decide) | exact rfl)) ?_
          refine slv_if_neB eX12_related_9 (fun h9 => ?_) (fun h9 => absurd h9 (by decide))
          refine slv_iload_n eX12_related_18 rfl ?_
          refine slv_iconst (v := nI 1) eX12_related_19 (by decide) ?_
          refine slv_icmp_eq eX12_related_20 (fun h20 => absurd h20 h1) (fun h20 => ?_)
          refine slv_iload_n eX12_related_23 rfl ?_
          refine slv_iconst (v := nI 2) eX12_related_24 (by decide) ?_
          refine slv_icmp_eq eX12_related_25 (fun h25 => absurd h25 h2) (fun h25 => ?_)
          refine slv_iload_n eX12_related_28 rfl ?_
          refine slv_iconst (v := nI 4) eX12_related_29 (by decide) ?_
          refine slv_icmp_eq eX12_related_30 (fun h30 => absurd h30 h4) (fun h30 => ?_)
          refine slv_aload_n eX12_related_33 rfl ?_
          refine slv_iconst (v := nI 2) eX12_related_34 (by decide) ?_
          refine slv_rV (As := [_]) eX12_related_35 lX12_155 rfl rfl rf_68 rfl (c_X12_refused 2) (by decide) (Nat.le_of_ble_eq_true rfl) ?_
          refine slv_iret eX12_related_38 rfl ?_
          exact ⟨rfl, rfl⟩
set_option maxRecDepth 100000 in
theorem c_X12_isClash (k : Nat) (hk : k < 8) : sl_R YX12_isClash 0 [.ref 68, .int (nI k)] (rf_S v w a nm M) (some (.int (sl_bi (sl_cl (nI k))))) (rf_S v w a nm M) := by
  refine sl_T.of_V (lv := [_, _]) (by decide) rfl (Nat.le_of_ble_eq_true rfl) ?_
  have h8 := cl_8 k hk
  refine slv_iload_n eX12_isClash_0 rfl ?_
  refine slv_iload_n eX12_isClash_1 rfl ?_
  refine slv_iconst (v := nI 1) eX12_isClash_2 (by decide) ?_
  refine slv_isub eX12_isClash_3 ?_
  refine slv_iand eX12_isClash_4 ?_
  refine slv_if_eq eX12_isClash_5 (fun h5 => ?_) (fun h5 => ?_)
  · refine slv_iconst (v := nI 0) eX12_isClash_12 (by decide) ?_
    refine slv_zret eX12_isClash_13 rfl rfl ?_
    refine ⟨?_, rfl⟩
    first | (rw [decide_eq_true h5] at h8; rw [show sl_cl (nI k) = false from by simpa using h8.symm]; rfl) | (rw [decide_eq_false h5] at h8; rw [show sl_cl (nI k) = true from by simpa using h8.symm]; rfl)
  · refine slv_iconst (v := nI 1) eX12_isClash_8 (by decide) ?_
    refine slv_goto eX12_isClash_9 ?_
    refine slv_zret eX12_isClash_13 rfl rfl ?_
    refine ⟨?_, rfl⟩
    first | (rw [decide_eq_true h5] at h8; rw [show sl_cl (nI k) = false from by simpa using h8.symm]; rfl) | (rw [decide_eq_false h5] at h8; rw [show sl_cl (nI k) = true from by simpa using h8.symm]; rfl)
theorem c_X12_isClash' {x : Int32} (h : ∃ k, k < 8 ∧ x = nI k) : sl_R YX12_isClash 0 [.ref 68, .int x] (rf_S v w a nm M) (some (.int (sl_bi (sl_cl x)))) (rf_S v w a nm M) := by
  obtain ⟨k, hk, rfl⟩ := h
  exact c_X12_isClash k hk
set_option maxRecDepth 100000 in
theorem c_X12_clashMany {e : Nat} (he : e ≤ 11) (h16 : v 16 = nI e) (hs : ∀ i, i < 144 → a 38 i = s i) (hz : rl_z e s) : sl_R YX12_clashMany 1 [.ref 68] (rf_S v w a nm M) (some (.int (nI (sl_ct (fun i => sl_cl (s i)) 144 0)))) (rf_S v w a nm M) := by
  refine sl_T.of_V (lv := [_, _, _, _]) (by decide) rfl (Nat.le_of_ble_eq_true rfl) ?_
  rw [← rf_n2_eq he (fun x' y' hx hy h => by rw [hz.1 x' y' hx hy h]; decide +kernel)]
  have hA := fun (x y : Nat) (hx : x < 12) (hy : y < 12) => (show sl_R YX12_relationOf 0 [.ref 68, .int (nI x), .int (nI y)] (rf_S v w a nm M) (some (.int (s (12 * x + y)))) (rf_S v w a nm M) from by
    have := c_X12_relationOf (v := v) (w := w) (a := a) (nm := nm) (M := M) (x := x) (y := y) (by omega)
    rwa [hs _ (by omega)] at this)
  have row : ∀ (m i acc xx : Nat), i + m = e + 1 → xx ≤ e → ∀ Q : Option Value → sl_M → Prop, sl_V YX12_clashMany none 1 0 0 Q 49 [some (.ref 68), some (.int (nI (acc + sl_ct (fun y => sl_cl (s (12 * xx + y))) m i))), some (.int (nI xx)), some (.int (nI (e + 1)))] [] (rf_S v w a nm M) → sl_V YX12_clashMany none 1 0 0 Q 14 [some (.ref 68), some (.int (nI acc)), some (.int (nI xx)), some (.int (nI i))] [] (rf_S v w a nm M) := by
    intro m
    induction m with
    | zero =>
      intro i acc xx hi hx Q hQ
      have hi' : i = e + 1 := by omega
      subst hi'
      refine slv_iload_n eX12_clashMany_14 rfl ?_
      refine slv_aload_n eX12_clashMany_15 rfl ?_
      refine slr_gi eX12_clashMany_16 fX12_324 rfl (by repeat (first | exact sl_u_eq | assumption | apply rf_ne (by decide) | exact rfl)) ?_
      refine slv_icmp_gtN eX12_clashMany_19 (by omega) (by omega) (fun h19 => ?_) (fun h19 => absurd h19 (by omega))
      exact hQ
    | succ m ih =>
      intro i acc xx hi hx Q hQ
      refine slv_iload_n eX12_clashMany_14 rfl ?_
      refine slv_aload_n eX12_clashMany_15 rfl ?_
      refine slr_gi eX12_clashMany_16 fX12_324 rfl (by repeat (first | exact sl_u_eq | assumption | apply rf_ne (by decide) | exact rfl)) ?_
      refine slv_icmp_gtN eX12_clashMany_19 (by omega) (by omega) (fun h19 => absurd h19 (by omega)) (fun h19 => ?_)
      refine slv_iload_n eX12_clashMany_22 rfl ?_
      refine slv_aload_n eX12_clashMany_23 rfl ?_
      refine slv_aload_n eX12_clashMany_24 rfl ?_
      refine slv_iload_n eX12_clashMany_25 rfl ?_
      refine slv_iload_n eX12_clashMany_26 rfl ?_
      refine slv_rV (As := [_, _]) eX12_clashMany_27 lX12_371 rfl rfl rf_68 rfl (hA xx i (by omega) (by omega)) (by decide) (Nat.le_of_ble_eq_true rfl) ?_
      refine slv_rV (As := [_]) eX12_clashMany_30 lX12_374 rfl rfl rf_68 rfl (c_X12_isClash' (hz.2 _)) (by decide) (Nat.le_of_ble_eq_true rfl) ?_
      refine slv_if_eqB eX12_clashMany_33 (fun h33 => ?_) (fun h33 => ?_)
      · refine slv_iconst (v := nI 0) eX12_clashMany_40 (by decide) ?_
        refine slv_iaddN eX12_clashMany_41 ?_
        refine slv_istore_n (i := 1) (lv' := [_, _, _, _]) eX12_clashMany_42 rfl (by decide) rfl ?_
        refine slv_iincN (lv' := [_, _, _, _]) eX12_clashMany_43 rfl (by decide) rfl ?_
        refine slv_goto eX12_clashMany_46 ?_
        refine ih (i + 1) _ xx (by omega) hx Q ?_
        simp only [sl_ct, h33, cond_false, cond_true] at hQ
        first | (rw [Nat.zero_add] at hQ; exact hQ) | (rw [← Nat.add_assoc] at hQ; exact hQ)
      · refine slv_iconst (v := nI 1) eX12_clashMany_36 (by decide) ?_
        refine slv_goto eX12_clashMany_37 ?_
        refine slv_iaddN eX12_clashMany_41 ?_
        refine slv_istore_n (i := 1) (lv' := [_, _, _, _]) eX12_clashMany_42 rfl (by decide) rfl ?_
        refine slv_iincN (lv' := [_, _, _, _]) eX12_clashMany_43 rfl (by decide) rfl ?_
        refine slv_goto eX12_clashMany_46 ?_
        refine ih (i + 1) _ xx (by omega) hx Q ?_
        simp only [sl_ct, h33, cond_false, cond_true] at hQ
        first | (rw [Nat.zero_add] at hQ; exact hQ) | (rw [← Nat.add_assoc] at hQ; exact hQ)
  have rows : ∀ (m i acc : Nat) (y : Option Value), i + m = e + 1 → ∀ Q : Option Value → sl_M → Prop, Q (some (.int (nI (rf_n2 (fun p => sl_cl (s p)) e m i acc)))) (rf_S v w a nm M) → sl_V YX12_clashMany none 1 0 0 Q 4 [some (.ref 68), some (.int (nI acc)), some (.int (nI i)), y] [] (rf_S v w a nm M) := by
    intro m
    induction m with
    | zero =>
      intro i acc y hi Q hQ
      refine slv_iload_n eX12_clashMany_4 rfl ?_
      refine slv_aload_n eX12_clashMany_5 rfl ?_
      refine slr_gi eX12_clashMany_6 fX12_324 rfl (by repeat (first | exact sl_u_eq | assumption | apply rf_ne (by decide) | exact rfl)) ?_
      refine slv_icmp_gtN eX12_clashMany_9 (by omega) (by omega) (fun h9 => ?_) (fun h9 => absurd h9 (by omega))
      refine slv_iload_n eX12_clashMany_55 rfl ?_
      refine slv_iret eX12_clashMany_56 rfl ?_
      exact hQ
    | succ m ih =>
      intro i acc y hi Q hQ
      refine slv_iload_n eX12_clashMany_4 rfl ?_
      refine slv_aload_n eX12_clashMany_5 rfl ?_
      refine slr_gi eX12_clashMany_6 fX12_324 rfl (by repeat (first | exact sl_u_eq | assumption | apply rf_ne (by decide) | exact rfl)) ?_
      refine slv_icmp_gtN eX12_clashMany_9 (by omega) (by omega) (fun h9 => absurd h9 (by omega)) (fun h9 => ?_)
      refine slv_iconst (v := nI 0) eX12_clashMany_12 (by decide) ?_
      refine slv_istore_n (i := 3) (lv' := [_, _, _, _]) eX12_clashMany_13 rfl (by decide) rfl ?_
      refine row (e + 1) 0 acc i (by omega) (by omega) Q ?_
      refine slv_iincN (lv' := [_, _, _, _]) eX12_clashMany_49 rfl (by decide) rfl ?_
      refine slv_goto eX12_clashMany_52 ?_
      exact ih (i + 1) _ _ (by omega) Q hQ
  refine slv_iconst (v := nI 0) eX12_clashMany_0 (by decide) ?_
  refine slv_istore_n (i := 1) (lv' := [_, _, _, _]) eX12_clashMany_1 rfl (by decide) rfl ?_
  refine slv_iconst (v := nI 0) eX12_clashMany_2 (by decide) ?_
  refine slv_istore_n (i := 2) (lv' := [_, _, _, _]) eX12_clashMany_3 rfl (by decide) rfl ?_
  exact rows (e + 1) 0 0 _ (by omega) _ ⟨rfl, rfl⟩
set_option maxRecDepth 100000 in
theorem c_X12_clashes (h21 : v 21 = sl_bi sn) (hok : sg_ok g) (hG : sn = true → rf_G g v a) (hR : sn = true → rf_R l t s a) (hz : sn = true → rl_z (sg_terms g) s) : sl_R YX12_clashes 2 [.ref 68] (rf_S v w a nm M) (some (.int (an_clashes sn s).1)) (rf_S (rf_an v (an_clashes sn s).2) w a nm M) := by
  have ht11 : sg_terms g ≤ 11 := hok.2.2.2.1
  refine sl_T.of_V (lv := [_]) (by decide) rfl (Nat.le_of_ble_eq_true rfl) ?_
  unfold an_clashes
  cases sn with
  | false =>
    refine slv_aload_n eX12_clashes_0 rfl ?_
    refine slv_iconst (v := nI 0) eX12_clashes_1 (by decide) ?_
    refine slr_pi eX12_clashes_2 fX12_149 (Nat.le_of_ble_eq_true rfl) rf_s0 ?_
    refine slv_aload_n eX12_clashes_5 rfl ?_
    refine slr_gi eX12_clashes_6 fX12_317 rfl (by repeat (first | exact sl_u_eq | assumption | apply rf_ne (by decide) | exact rfl)) ?_
    refine slv_if_eqB eX12_clashes_9 (fun h9 => ?_) (fun h9 => absurd h9 (by decide))
    refine slv_aload_n eX12_clashes_23 rfl ?_
    refine slv_iconst (v := nI 1) eX12_clashes_24 (by decide) ?_
    refine slv_rV (As := [_]) eX12_clashes_25 lX12_155 rfl rfl rf_68 rfl (c_X12_refused 1) (by decide) (Nat.le_of_ble_eq_true rfl) ?_
    refine slv_iret eX12_clashes_28 rfl ?_
    exact ⟨rfl, rfl⟩
  | true =>
    have hC := c_X12_clashMany (v := sl_u v 0 (nI 0)) (w := w) (a := a) (nm := nm) (M := M) ht11 ((sl_u_ne (by decide)).trans (hG rfl).2.2.1) (hR rfl).2 (hz rfl)
    refine slv_aload_n eX12_clashes_0 rfl ?_
    refine slv_iconst (v := nI 0) eX12_clashes_1 (by decide) ?_
    refine slr_pi eX12_clashes_2 fX12_149 (Nat.le_of_ble_eq_true rfl) rf_s0 ?_
    refine slv_aload_n eX12_clashes_5 rfl ?_
    refine slr_gi eX12_clashes_6 fX12_317 rfl (by repeat (first | exact sl_u_eq | assumption | apply rf_ne (by decide) | exact rfl)) ?_
    refine slv_if_eqB eX12_clashes_9 (fun h9 => absurd h9 (by decide)) (fun h9 => ?_)
    refine slv_aload_n eX12_clashes_12 rfl ?_
    refine slv_aload_n eX12_clashes_13 rfl ?_
    refine slv_rV (As := []) eX12_clashes_14 lX12_377 rfl rfl rf_68 rfl hC (by decide) (Nat.le_of_ble_eq_true rfl) ?_
    refine slv_rV (As := [_]) eX12_clashes_17 lX12_314 rfl rfl rf_68 rfl (c_X12_good _) (by decide) (Nat.le_of_ble_eq_true rfl) ?_
    refine slv_goto eX12_clashes_20 ?_
    refine slv_iret eX12_clashes_28 rfl ?_
    exact ⟨rfl, rfl⟩
end RRL
