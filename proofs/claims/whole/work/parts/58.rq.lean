/-! the reference: clash, doubles, barren, size -/
def rl_ck (c : Nat → Bool) : Nat → Nat → Nat → Int32
  | 0, _, _ => -1
  | n + 1, i, k => cond (c i) (cond (decide (k = 0)) (nI (i / 12 * 16 + i % 12)) (rl_ck c n (i + 1) (k - 1))) (rl_ck c n (i + 1) k)
theorem rl_clk_ck (s : Nat → Int32) (n : Nat) : ∀ i k, rl_clk s n i k = rl_ck (fun i => sl_cl (s i)) n i k := by
  induction n with
  | zero => intro i k; rfl
  | succ n ih => intro i k; rw [rl_clk, rl_ck, ih, ih]
theorem rl_ck_at {c : Nat → Bool} (n : Nat) : ∀ i p, i ≤ p → p < i + n → c p = true → rl_ck c n i (sl_ct c (p - i) i) = nI (p / 12 * 16 + p % 12) := by
  induction n with
  | zero => intro i p h1 h2; omega
  | succ n ih =>
    intro i p h1 h2 hc
    by_cases e : p = i
    · subst e
      rw [Nat.sub_self]
      simp [rl_ck, sl_ct, hc]
    · rw [show p - i = (p - (i + 1)) + 1 by omega]
      simp only [rl_ck, sl_ct]
      rcases Bool.eq_false_or_eq_true (c i) with hs | hs
      · simp only [hs, cond_true]
        rw [decide_eq_false (by omega), cond_false, show 1 + sl_ct c (p - (i + 1)) (i + 1) - 1 = sl_ct c (p - (i + 1)) (i + 1) by omega]
        exact ih (i + 1) p (by omega) (by omega) hc
      · simp only [hs, cond_false, Nat.zero_add]
        exact ih (i + 1) p (by omega) (by omega) hc
theorem rl_clk_at {s : Nat → Int32} (n : Nat) (i p : Nat) (h1 : i ≤ p) (h2 : p < i + n) (hc : sl_cl (s p) = true) : rl_clk s n i (sl_ct (fun i => sl_cl (s i)) (p - i) i) = nI (p / 12 * 16 + p % 12) := by
  rw [rl_clk_ck]
  exact rl_ck_at (c := fun i => sl_cl (s i)) n i p h1 h2 hc
/-- barren names as the reference looks for them -/
def bn_r (g : sg_T) (x : Int32) : Nat → Nat → Nat → Option Nat
  | 0, _, _ => none
  | m + 1, i, k => cond (sg_bn g i) (if nI k = x then some i else bn_r g x m (i + 1) (k + 1)) (bn_r g x m (i + 1) k)
section RQ
variable {v : Nat → Int32} {w : Int64} {a : Nat → Nat → Int32} {nm : Nat → Int64} {M : sl_M} {g : sg_T} {sn : Bool} {l t s : Nat → Int32}
set_option maxRecDepth 100000 in
theorem c_X12_clash (h21 : v 21 = sl_bi sn) (hok : sg_ok g) (hG : sn = true → rf_G g v a) (hR : sn = true → rf_R l t s a) (hz : sn = true → rl_z (sg_terms g) s) (x : Int32) : sl_R YX12_clash 1 [.ref 68, .int x] (rf_S v w a nm M) (some (.int (an_clash sn s x).1)) (rf_S (rf_an v (an_clash sn s x).2) w a nm M) := by
  have ht11 : sg_terms g ≤ 11 := hok.2.2.2.1
  refine sl_T.of_V (lv := [_, _, _, _, _]) (by decide) rfl (Nat.le_of_ble_eq_true rfl) ?_
  unfold an_clash
  cases sn with
  | false =>
    refine slv_aload_n eX12_clash_0 rfl ?_
    refine slv_iconst (v := nI 0) eX12_clash_1 (by decide) ?_
    refine slr_pi eX12_clash_2 fX12_149 (Nat.le_of_ble_eq_true rfl) rf_s0 ?_
    refine slv_aload_n eX12_clash_5 rfl ?_
    refine slr_gi eX12_clash_6 fX12_317 rfl (by repeat (first | exact sl_u_eq | assumption | apply rf_ne (by decide) | exact rfl)) ?_
    refine slv_if_neB eX12_clash_9 (fun h9 => absurd h9 (by decide)) (fun h9 => ?_)
    refine slv_aload_n eX12_clash_12 rfl ?_
    refine slv_iconst (v := nI 1) eX12_clash_13 (by decide) ?_
    refine slv_rV (As := [_]) eX12_clash_14 lX12_155 rfl rfl rf_68 rfl (c_X12_refused 1) (by decide) (Nat.le_of_ble_eq_true rfl) ?_
    refine slv_iret eX12_clash_17 rfl ?_
    exact ⟨rfl, rfl⟩
  | true =>
    rw [show ∀ n, sl_vr true x n = sl_vi x n from fun _ => rfl]
    obtain ⟨h14, h15, h16, h22, hr, hi, ht⟩ := hG rfl
    have hz1 := hz rfl
    have hA := fun (x y : Nat) (hx : x < 12) (hy : y < 12) => (show sl_R YX12_relationOf 0 [.ref 68, .int (nI x), .int (nI y)] (rf_S (sl_u v 0 (nI 0)) w a nm M) (some (.int (s (12 * x + y)))) (rf_S (sl_u v 0 (nI 0)) w a nm M) from by
      have := c_X12_relationOf (v := sl_u v 0 (nI 0)) (w := w) (a := a) (nm := nm) (M := M) (x := x) (y := y) (by omega)
      rwa [(hR rfl).2 _ (by omega)] at this)
    generalize sg_terms g = e at *
    have hle : ∀ n i, sl_ct (fun i => sl_cl (s i)) n i ≤ n := sl_ct_le _
    have hfin : ∀ n, (∀ k, k < n → nI k ≠ x) → n = sl_ct (fun i => sl_cl (s i)) 144 0 → sl_vi x (sl_ct (fun i => sl_cl (s i)) 144 0) = none := by
      intro n h hn
      cases hv : sl_vi x (sl_ct (fun i => sl_cl (s i)) 144 0) with
      | none => rfl
      | some k => exact absurd (vi_some hv).1.symm (h k (by have := (vi_some hv).2; omega))
    have row : ∀ (m i n xx : Nat), i + m = e + 1 → xx ≤ e → n = sl_ct (fun i => sl_cl (s i)) (12 * xx + i) 0 → (∀ k, k < n → nI k ≠ x) → ∀ Q : Option Value → sl_M → Prop, (∀ k, sl_vi x (sl_ct (fun i => sl_cl (s i)) 144 0) = some k → Q (some (.int (rl_clk s 144 0 k))) (rf_S (rf_an v 0) w a nm M)) → (∀ n', n' = sl_ct (fun i => sl_cl (s i)) (12 * (xx + 1)) 0 → (∀ k, k < n' → nI k ≠ x) → sl_V YX12_clash none 1 0 0 Q 85 [some (.ref 68), some (.int x), some (.int (nI n')), some (.int (nI xx)), some (.int (nI (e + 1)))] [] (rf_S (sl_u v 0 (nI 0)) w a nm M)) → sl_V YX12_clash none 1 0 0 Q 33 [some (.ref 68), some (.int x), some (.int (nI n)), some (.int (nI xx)), some (.int (nI i))] [] (rf_S (sl_u v 0 (nI 0)) w a nm M) := by
      intro m
      induction m with
      | zero =>
        intro i n xx hi hx hn hne Q hQ1 hQ2
        have hi' : i = e + 1 := by omega
        subst hi'
        have hn2 : n = sl_ct (fun i => sl_cl (s i)) (12 * (xx + 1)) 0 := by
          have h2 := sl_ct_app (fun i => sl_cl (s i)) (12 * xx + (e + 1)) (11 - e) 0
          rw [show 12 * xx + (e + 1) + (11 - e) = 12 * (xx + 1) by omega, sl_ct_zero (11 - e) (0 + (12 * xx + (e + 1))) (fun k h1 h2 => by
            have := hz1.1 (k / 12) (k % 12) (by omega) (by omega) (Or.inr (by omega))
            rw [show 12 * (k / 12) + k % 12 = k by omega] at this
            rw [this]; decide +kernel)] at h2
          rw [hn, h2]
          rfl
        refine slv_iload eX12_clash_33 rfl ?_
        refine slv_aload_n eX12_clash_35 rfl ?_
        refine slr_gi eX12_clash_36 fX12_324 rfl (by repeat (first | exact sl_u_eq | assumption | apply rf_ne (by decide) | exact rfl)) ?_
        refine slv_icmp_gtN eX12_clash_39 (by omega) (by omega) (fun h39 => ?_) (fun h39 => absurd h39 (by omega))
        exact hQ2 n hn2 hne
      | succ m ih =>
        intro i n xx hi hx hn hne Q hQ1 hQ2
        have hstep : sl_ct (fun i => sl_cl (s i)) (12 * xx + (i + 1)) 0 = sl_ct (fun i => sl_cl (s i)) (12 * xx + i) 0 + cond (sl_cl (s (12 * xx + i))) 1 0 := by
          rw [show 12 * xx + (i + 1) = 12 * xx + i + 1 by omega, sl_ct_app]
          simp [sl_ct]
        have hn1 := hle (12 * xx + i) 0
        have hcl := fun (hc : sl_cl (s (12 * xx + i)) = true) => rl_clk_at (s := s) 144 0 (12 * xx + i) (by omega) (by omega) hc
        have hlt : sl_cl (s (12 * xx + i)) = true → n < sl_ct (fun i => sl_cl (s i)) 144 0 := by
          intro hc
          rw [show 144 = (12 * xx + i) + (144 - (12 * xx + i)) by omega, sl_ct_app, show 144 - (12 * xx + i) = (143 - (12 * xx + i)) + 1 by omega, ← hn]
          simp only [sl_ct, Nat.zero_add, hc, cond_true]
          omega
        rw [Nat.sub_zero, ← hn, show (12 * xx + i) / 12 * 16 + (12 * xx + i) % 12 = 16 * xx + i by omega] at hcl
        refine slv_iload eX12_clash_33 rfl ?_
        refine slv_aload_n eX12_clash_35 rfl ?_
        refine slr_gi eX12_clash_36 fX12_324 rfl (by repeat (first | exact sl_u_eq | assumption | apply rf_ne (by decide) | exact rfl)) ?_
        refine slv_icmp_gtN eX12_clash_39 (by omega) (by omega) (fun h39 => absurd h39 (by omega)) (fun h39 => ?_)
        refine slv_aload_n eX12_clash_42 rfl ?_
        refine slv_aload_n eX12_clash_43 rfl ?_
        refine slv_iload_n eX12_clash_44 rfl ?_
        refine slv_iload eX12_clash_45 rfl ?_
        refine slv_rV (As := [_, _]) eX12_clash_47 lX12_371 rfl rfl rf_68 rfl (hA xx i (by omega) (by omega)) (by decide) (Nat.le_of_ble_eq_true rfl) ?_
        refine slv_rV (As := [_]) eX12_clash_50 lX12_374 rfl rfl rf_68 rfl (c_X12_isClash' (hz1.2 _)) (by decide) (Nat.le_of_ble_eq_true rfl) ?_
        refine slv_if_neB eX12_clash_53 (fun h53 => ?_) (fun h53 => ?_)
        · refine slv_iload_n eX12_clash_59 rfl ?_
          refine slv_iload_n eX12_clash_60 rfl ?_
          refine slv_icmp_ne eX12_clash_61 (fun h61 => ?_) (fun h61 => ?_)
          · refine slv_iincN (lv' := [_, _, _, _, _]) eX12_clash_76 rfl (by decide) rfl ?_
            refine slv_iincN (lv' := [_, _, _, _, _]) eX12_clash_79 rfl (by decide) rfl ?_
            refine slv_goto eX12_clash_82 ?_
            rw [h53] at hstep
            first | (refine ih (i + 1) n xx (by omega) hx (by rw [hstep, hn]; rfl) hne Q hQ1 hQ2; done) | (refine ih (i + 1) (n + 1) xx (by omega) hx (by rw [hstep, hn]; rfl) (fun k hk => (Nat.lt_or_ge k n).elim (hne k) (fun q => by rw [show k = n by omega]; exact h61)) Q hQ1 hQ2)
          · refine slv_aload_n eX12_clash_64 rfl ?_
            refine slv_bipush (v := nI 16) eX12_clash_65 (by decide) ?_
            refine slv_iload_n eX12_clash_67 rfl ?_
            refine slv_imulN eX12_clash_68 ?_
            refine slv_iload eX12_clash_69 rfl ?_
            refine slv_iaddN eX12_clash_71 ?_
            refine slv_rV (As := [_]) eX12_clash_72 lX12_314 rfl rfl rf_68 rfl (c_X12_good _) (by decide) (Nat.le_of_ble_eq_true rfl) ?_
            refine slv_iret eX12_clash_75 rfl ?_
            rw [← hcl h53]
            exact hQ1 n (by rw [← h61]; exact vi_nI (hlt h53) (by omega))
        · refine slv_goto eX12_clash_56 ?_
          refine slv_iincN (lv' := [_, _, _, _, _]) eX12_clash_79 rfl (by decide) rfl ?_
          refine slv_goto eX12_clash_82 ?_
          rw [h53] at hstep
          first | (refine ih (i + 1) n xx (by omega) hx (by rw [hstep, hn]; rfl) hne Q hQ1 hQ2; done) | (refine ih (i + 1) (n + 1) xx (by omega) hx (by rw [hstep, hn]; rfl) (fun k hk => (Nat.lt_or_ge k n).elim (hne k) (fun q => by rw [show k = n by omega]; exact h61)) Q hQ1 hQ2)
    have rows : ∀ (m i n : Nat) (y : Option Value), i + m = e + 1 → n = sl_ct (fun i => sl_cl (s i)) (12 * i) 0 → (∀ k, k < n → nI k ≠ x) → ∀ Q : Option Value → sl_M → Prop, (∀ k, sl_vi x (sl_ct (fun i => sl_cl (s i)) 144 0) = some k → Q (some (.int (rl_clk s 144 0 k))) (rf_S (rf_an v 0) w a nm M)) → (sl_vi x (sl_ct (fun i => sl_cl (s i)) 144 0) = none → Q (some (.int (-1))) (rf_S (rf_an v 1) w a nm M)) → sl_V YX12_clash none 1 0 0 Q 22 [some (.ref 68), some (.int x), some (.int (nI n)), some (.int (nI i)), y] [] (rf_S (sl_u v 0 (nI 0)) w a nm M) := by
      intro m
      induction m with
      | zero =>
        intro i n y hi hn hne Q hQ1 hQ2
        have hn2 : n = sl_ct (fun i => sl_cl (s i)) 144 0 := by
          have h2 := sl_ct_app (fun i => sl_cl (s i)) (12 * (e + 1)) (12 * (11 - e)) 0
          rw [show 12 * (e + 1) + 12 * (11 - e) = 144 by omega, sl_ct_zero (12 * (11 - e)) (0 + 12 * (e + 1)) (fun k h2 h3 => by
            have := hz1.1 (k / 12) (k % 12) (by omega) (by omega) (Or.inl (by omega))
            rw [show 12 * (k / 12) + k % 12 = k by omega] at this
            rw [this]; decide +kernel)] at h2
          rw [h2, hn, show i = e + 1 by omega]
          rfl
        refine slv_iload_n eX12_clash_22 rfl ?_
        refine slv_aload_n eX12_clash_23 rfl ?_
        refine slr_gi eX12_clash_24 fX12_324 rfl (by repeat (first | exact sl_u_eq | assumption | apply rf_ne (by decide) | exact rfl)) ?_
        refine slv_icmp_gtN eX12_clash_27 (by omega) (by omega) (fun h27 => ?_) (fun h27 => absurd h27 (by omega))
        refine slv_aload_n eX12_clash_91 rfl ?_
        refine slv_iconst (v := nI 1) eX12_clash_92 (by decide) ?_
        refine slv_rV (As := [_]) eX12_clash_93 lX12_155 rfl rfl rf_68 rfl (c_X12_refused 1) (by decide) (Nat.le_of_ble_eq_true rfl) ?_
        refine slv_iret eX12_clash_96 rfl ?_
        exact hQ2 (hfin n hne hn2)
      | succ m ih =>
        intro i n y hi hn hne Q hQ1 hQ2
        refine slv_iload_n eX12_clash_22 rfl ?_
        refine slv_aload_n eX12_clash_23 rfl ?_
        refine slr_gi eX12_clash_24 fX12_324 rfl (by repeat (first | exact sl_u_eq | assumption | apply rf_ne (by decide) | exact rfl)) ?_
        refine slv_icmp_gtN eX12_clash_27 (by omega) (by omega) (fun h27 => absurd h27 (by omega)) (fun h27 => ?_)
        refine slv_iconst (v := nI 0) eX12_clash_30 (by decide) ?_
        refine slv_istore (lv' := [_, _, _, _, _]) eX12_clash_31 (by decide) rfl ?_
        refine row (e + 1) 0 n i (by omega) (by omega) hn hne Q hQ1 (fun n' hn' hne' => ?_)
        refine slv_iincN (lv' := [_, _, _, _, _]) eX12_clash_85 rfl (by decide) rfl ?_
        refine slv_goto eX12_clash_88 ?_
        exact ih (i + 1) n' _ (by omega) hn' hne' Q hQ1 hQ2
    cases hv : sl_vi x (sl_ct (fun i => sl_cl (s i)) 144 0) with
    | none =>
      refine slv_aload_n eX12_clash_0 rfl ?_
      refine slv_iconst (v := nI 0) eX12_clash_1 (by decide) ?_
      refine slr_pi eX12_clash_2 fX12_149 (Nat.le_of_ble_eq_true rfl) rf_s0 ?_
      refine slv_aload_n eX12_clash_5 rfl ?_
      refine slr_gi eX12_clash_6 fX12_317 rfl (by repeat (first | exact sl_u_eq | assumption | apply rf_ne (by decide) | exact rfl)) ?_
      refine slv_if_neB eX12_clash_9 (fun h9 => ?_) (fun h9 => absurd h9 (by decide))
      refine slv_iconst (v := nI 0) eX12_clash_18 (by decide) ?_
      refine slv_istore_n (i := 2) (lv' := [_, _, _, _, _]) eX12_clash_19 rfl (by decide) rfl ?_
      refine slv_iconst (v := nI 0) eX12_clash_20 (by decide) ?_
      refine slv_istore_n (i := 3) (lv' := [_, _, _, _, _]) eX12_clash_21 rfl (by decide) rfl ?_
      refine rows (e + 1) 0 0 _ (by omega) rfl (fun k hk => by omega) _ (fun k hk => ?_) (fun _ => ⟨rfl, rfl⟩)
      rw [hv] at hk; cases hk
    | some k =>
      refine slv_aload_n eX12_clash_0 rfl ?_
      refine slv_iconst (v := nI 0) eX12_clash_1 (by decide) ?_
      refine slr_pi eX12_clash_2 fX12_149 (Nat.le_of_ble_eq_true rfl) rf_s0 ?_
      refine slv_aload_n eX12_clash_5 rfl ?_
      refine slr_gi eX12_clash_6 fX12_317 rfl (by repeat (first | exact sl_u_eq | assumption | apply rf_ne (by decide) | exact rfl)) ?_
      refine slv_if_neB eX12_clash_9 (fun h9 => ?_) (fun h9 => absurd h9 (by decide))
      refine slv_iconst (v := nI 0) eX12_clash_18 (by decide) ?_
      refine slv_istore_n (i := 2) (lv' := [_, _, _, _, _]) eX12_clash_19 rfl (by decide) rfl ?_
      refine slv_iconst (v := nI 0) eX12_clash_20 (by decide) ?_
      refine slv_istore_n (i := 3) (lv' := [_, _, _, _, _]) eX12_clash_21 rfl (by decide) rfl ?_
      refine rows (e + 1) 0 0 _ (by omega) rfl (fun k hk => by omega) _ (fun k' hk => ?_) (fun q => ?_)
      · rw [hv] at hk; cases hk; exact ⟨rfl, rfl⟩
      · rw [hv] at q; cases q
set_option maxRecDepth 100000 in
theorem c_X12_hasSkeleton (hok : sg_ok g) (hG : rf_G g v a) {r : Nat} (hr : r < sg_rules g) : sl_R YX12_hasSkeleton 1 [.ref 68, .int (nI r)] (rf_S v w a nm M) (some (.int (sl_bi (sg_sk g r)))) (rf_S v w a nm M) := by
  have hr12 : sg_rules g ≤ 12 := hok.2.1
  have hl := (hok.2.2.2.2.2.1 r (by omega)).2.2
  have hl1 := hok.2.2.2.2.2.2.2 r hr
  have hit : sg_it g r 0 < 1000 := sg_it_lt hok (show r < 12 by omega) (show 0 < 5 by omega)
  obtain ⟨h14, h15, h16, h22, hrr, hi, ht⟩ := hG
  obtain ⟨r1, r2, r3, r4⟩ := hrr r hr
  have hA := c_X12_at (v := v) (w := w) (a := a) (nm := nm) (M := M) (r := r) (i := 0) (by omega)
  rw [hi r 0 hr (by omega)] at hA
  refine sl_T.of_V (lv := [_, _]) (by decide) rfl (Nat.le_of_ble_eq_true rfl) ?_
  unfold sg_sk
  refine slv_aload_n eX12_hasSkeleton_0 rfl ?_
  refine slr_ga (p := 71) eX12_hasSkeleton_1 fX12_20 rfl ?_
  refine slv_iload_n eX12_hasSkeleton_4 rfl ?_
  refine slr_ialdX (k := 5) (p := 71) (len := 12) eX12_hasSkeleton_5 rfl (by repeat (first | exact sl_u_eq | assumption | apply rf_ne (by decide) | exact rfl)) (by omega) (by decide) r2 ?_
  refine slv_iconst (v := nI 1) eX12_hasSkeleton_6 (by decide) ?_
  refine slv_icmp_gtN eX12_hasSkeleton_7 (by omega) (by omega) (fun h7 => ?_) (fun h7 => ?_)
  · refine slv_iconst (v := nI 1) eX12_hasSkeleton_21 (by decide) ?_
    refine slv_goto eX12_hasSkeleton_22 ?_
    refine slv_zret eX12_hasSkeleton_26 rfl rfl ?_
    refine ⟨?_, rfl⟩
    first | (rw [decide_eq_false (show ¬ sg_lens g r = 1 by omega)]; rfl) | (rw [decide_eq_true (show sg_lens g r = 1 by omega), show sg_nm (sg_it g r 0) = true from decide_eq_true (by omega)]; rfl) | (rw [decide_eq_true (show sg_lens g r = 1 by omega), show sg_nm (sg_it g r 0) = false from decide_eq_false (by omega)]; rfl)
  · refine slv_aload_n eX12_hasSkeleton_10 rfl ?_
    refine slv_iload_n eX12_hasSkeleton_11 rfl ?_
    refine slv_iconst (v := nI 0) eX12_hasSkeleton_12 (by decide) ?_
    refine slv_rV (As := [_, _]) eX12_hasSkeleton_13 lX12_351 rfl rfl rf_68 rfl hA (by decide) (Nat.le_of_ble_eq_true rfl) ?_
    refine slv_bipush (v := nI 100) eX12_hasSkeleton_16 (by decide) ?_
    refine slv_icmp_geN eX12_hasSkeleton_18 (by omega) (by omega) (fun h18 => ?_) (fun h18 => ?_)
    · refine slv_iconst (v := nI 0) eX12_hasSkeleton_25 (by decide) ?_
      refine slv_zret eX12_hasSkeleton_26 rfl rfl ?_
      refine ⟨?_, rfl⟩
      first | (rw [decide_eq_false (show ¬ sg_lens g r = 1 by omega)]; rfl) | (rw [decide_eq_true (show sg_lens g r = 1 by omega), show sg_nm (sg_it g r 0) = true from decide_eq_true (by omega)]; rfl) | (rw [decide_eq_true (show sg_lens g r = 1 by omega), show sg_nm (sg_it g r 0) = false from decide_eq_false (by omega)]; rfl)
    · refine slv_iconst (v := nI 1) eX12_hasSkeleton_21 (by decide) ?_
      refine slv_goto eX12_hasSkeleton_22 ?_
      refine slv_zret eX12_hasSkeleton_26 rfl rfl ?_
      refine ⟨?_, rfl⟩
      first | (rw [decide_eq_false (show ¬ sg_lens g r = 1 by omega)]; rfl) | (rw [decide_eq_true (show sg_lens g r = 1 by omega), show sg_nm (sg_it g r 0) = true from decide_eq_true (by omega)]; rfl) | (rw [decide_eq_true (show sg_lens g r = 1 by omega), show sg_nm (sg_it g r 0) = false from decide_eq_false (by omega)]; rfl)
set_option maxRecDepth 100000 in
theorem c_X12_areAlike (hok : sg_ok g) (hG : rf_G g v a) {r q : Nat} (hr : r < sg_rules g) (hq : q < sg_rules g) : sl_R YX12_areAlike 1 [.ref 68, .int (nI r), .int (nI q)] (rf_S v w a nm M) (some (.int (sl_bi (sg_same g r q)))) (rf_S v w a nm M) := by
  have hr12 : sg_rules g ≤ 12 := hok.2.1
  have hl := (hok.2.2.2.2.2.1 r (by omega)).2.2
  have hl2 := (hok.2.2.2.2.2.1 q (by omega)).2.2
  have hitr := fun i (hi : i < 5) => sg_it_lt hok (show r < 12 by omega) hi
  have hitq := fun i (hi : i < 5) => sg_it_lt hok (show q < 12 by omega) hi
  obtain ⟨h14, h15, h16, h22, hrr, hi, ht⟩ := hG
  obtain ⟨r1, r2, r3, r4⟩ := hrr r hr
  obtain ⟨q1, q2, q3, q4⟩ := hrr q hq
  have hA := fun r i (hr : r < sg_rules g) (hh : i < sg_lens g r) (hl : sg_lens g r ≤ 5) => (show sl_R YX12_at 0 [.ref 68, .int (nI r), .int (nI i)] (rf_S v w a nm M) (some (.int (nI (sg_it g r i)))) (rf_S v w a nm M) from by
    have := c_X12_at (v := v) (w := w) (a := a) (nm := nm) (M := M) (r := r) (i := i) (by omega)
    rwa [hi r i hr hh] at this)
  refine sl_T.of_V (lv := [_, _, _, _, _, _]) (by decide) rfl (Nat.le_of_ble_eq_true rfl) ?_
  by_cases he : sg_lens g r = sg_lens g q
  · have loop : ∀ (n i : Nat) (v4 v5 : Option Value), i + n = sg_lens g r → ∀ Q : Option Value → sl_M → Prop, Q (some (.int (sl_bi (!(sl_ex (fun i => sg_df (sg_it g r i) (sg_it g q i)) n i))))) (rf_S v w a nm M) → sl_V YX12_areAlike none 1 0 0 Q 19 [some (.ref 68), some (.int (nI r)), some (.int (nI q)), some (.int (nI i)), v4, v5] [] (rf_S v w a nm M) := by
      intro n
      induction n with
      | zero =>
        intro i v4 v5 hi Q hQ
        refine slv_iload_n eX12_areAlike_19 rfl ?_
        refine slv_aload_n eX12_areAlike_20 rfl ?_
        refine slr_ga (p := 71) eX12_areAlike_21 fX12_20 rfl ?_
        refine slv_iload_n eX12_areAlike_24 rfl ?_
        refine slr_ialdX (k := 5) (p := 71) (len := 12) eX12_areAlike_25 rfl (by repeat (first | exact sl_u_eq | assumption | apply rf_ne (by decide) | exact rfl)) (by omega) (by decide) r2 ?_
        refine slv_icmp_geN eX12_areAlike_26 (by omega) (by omega) (fun h26 => ?_) (fun h26 => absurd h26 (by omega))
        refine slv_iconst (v := nI 1) eX12_areAlike_74 (by decide) ?_
        refine slv_zret eX12_areAlike_75 rfl rfl ?_
        exact hQ
      | succ n ih =>
        intro i v4 v5 hi Q hQ
        have i1 : sg_it g r i < 1000 := hitr i (by omega)
        have i2 : sg_it g q i < 1000 := hitq i (by omega)
        refine slv_iload_n eX12_areAlike_19 rfl ?_
        refine slv_aload_n eX12_areAlike_20 rfl ?_
        refine slr_ga (p := 71) eX12_areAlike_21 fX12_20 rfl ?_
        refine slv_iload_n eX12_areAlike_24 rfl ?_
        refine slr_ialdX (k := 5) (p := 71) (len := 12) eX12_areAlike_25 rfl (by repeat (first | exact sl_u_eq | assumption | apply rf_ne (by decide) | exact rfl)) (by omega) (by decide) r2 ?_
        refine slv_icmp_geN eX12_areAlike_26 (by omega) (by omega) (fun h26 => absurd h26 (by omega)) (fun h26 => ?_)
        refine slv_aload_n eX12_areAlike_29 rfl ?_
        refine slv_iload_n eX12_areAlike_30 rfl ?_
        refine slv_iload_n eX12_areAlike_31 rfl ?_
        refine slv_rV (As := [_, _]) eX12_areAlike_32 lX12_351 rfl rfl rf_68 rfl (hA r i hr (by omega) hl) (by decide) (Nat.le_of_ble_eq_true rfl) ?_
        refine slv_istore (lv' := [_, _, _, _, _, _]) eX12_areAlike_35 (by decide) rfl ?_
        refine slv_aload_n eX12_areAlike_37 rfl ?_
        refine slv_iload_n eX12_areAlike_38 rfl ?_
        refine slv_iload_n eX12_areAlike_39 rfl ?_
        refine slv_rV (As := [_, _]) eX12_areAlike_40 lX12_351 rfl rfl rf_68 rfl (hA q i hq (by omega) hl2) (by decide) (Nat.le_of_ble_eq_true rfl) ?_
        refine slv_istore (lv' := [_, _, _, _, _, _]) eX12_areAlike_43 (by decide) rfl ?_
        refine slv_iload eX12_areAlike_45 rfl ?_
        refine slv_iload eX12_areAlike_47 rfl ?_
        refine slv_icmp_eqN eX12_areAlike_49 (by omega) (by omega) (fun h49 => ?_) (fun h49 => ?_)
        · refine slv_iincN (lv' := [_, _, _, _, _, _]) eX12_areAlike_68 rfl (by decide) rfl ?_
          refine slv_goto eX12_areAlike_71 ?_
          have e : sg_df (sg_it g r i) (sg_it g q i) = false := by first | (rw [sg_df, decide_eq_true h49]; rfl) | (rw [sg_df, decide_eq_false h49, show sg_nm (sg_it g r i) = true from decide_eq_true h56, show sg_nm (sg_it g q i) = true from decide_eq_true h63]; rfl)
          refine ih (i + 1) _ _ (by omega) Q ?_
          simp only [sl_ex, e, Bool.false_or] at hQ
          exact hQ
        · refine slv_iload eX12_areAlike_52 rfl ?_
          refine slv_bipush (v := nI 100) eX12_areAlike_54 (by decide) ?_
          refine slv_icmp_ltN eX12_areAlike_56 (by omega) (by omega) (fun h56 => ?_) (fun h56 => ?_)
          · refine slv_iconst (v := nI 0) eX12_areAlike_66 (by decide) ?_
            refine slv_zret eX12_areAlike_67 rfl rfl ?_
            have e : sg_df (sg_it g r i) (sg_it g q i) = true := by first | (rw [sg_df, decide_eq_false h49, show sg_nm (sg_it g r i) = false from decide_eq_false (Nat.not_le.mpr h56)]; rfl) | (rw [sg_df, decide_eq_false h49, show sg_nm (sg_it g r i) = true from decide_eq_true h56, show sg_nm (sg_it g q i) = false from decide_eq_false (Nat.not_le.mpr h63)]; rfl)
            simp only [sl_ex, e, Bool.true_or] at hQ
            exact hQ
          · refine slv_iload eX12_areAlike_59 rfl ?_
            refine slv_bipush (v := nI 100) eX12_areAlike_61 (by decide) ?_
            refine slv_icmp_geN eX12_areAlike_63 (by omega) (by omega) (fun h63 => ?_) (fun h63 => ?_)
            · refine slv_iincN (lv' := [_, _, _, _, _, _]) eX12_areAlike_68 rfl (by decide) rfl ?_
              refine slv_goto eX12_areAlike_71 ?_
              have e : sg_df (sg_it g r i) (sg_it g q i) = false := by first | (rw [sg_df, decide_eq_true h49]; rfl) | (rw [sg_df, decide_eq_false h49, show sg_nm (sg_it g r i) = true from decide_eq_true h56, show sg_nm (sg_it g q i) = true from decide_eq_true h63]; rfl)
              refine ih (i + 1) _ _ (by omega) Q ?_
              simp only [sl_ex, e, Bool.false_or] at hQ
              exact hQ
            · refine slv_iconst (v := nI 0) eX12_areAlike_66 (by decide) ?_
              refine slv_zret eX12_areAlike_67 rfl rfl ?_
              have e : sg_df (sg_it g r i) (sg_it g q i) = true := by first | (rw [sg_df, decide_eq_false h49, show sg_nm (sg_it g r i) = false from decide_eq_false (Nat.not_le.mpr h56)]; rfl) | (rw [sg_df, decide_eq_false h49, show sg_nm (sg_it g r i) = true from decide_eq_true h56, show sg_nm (sg_it g q i) = false from decide_eq_false (Nat.not_le.mpr h63)]; rfl)
              simp only [sl_ex, e, Bool.true_or] at hQ
              exact hQ
    refine slv_aload_n eX12_areAlike_0 rfl ?_
    refine slr_ga (p := 71) eX12_areAlike_1 fX12_20 rfl ?_
    refine slv_iload_n eX12_areAlike_4 rfl ?_
    refine slr_ialdX (k := 5) (p := 71) (len := 12) eX12_areAlike_5 rfl (by repeat (first | exact sl_u_eq | assumption | apply rf_ne (by decide) | exact rfl)) (by omega) (by decide) r2 ?_
    refine slv_aload_n eX12_areAlike_6 rfl ?_
    refine slr_ga (p := 71) eX12_areAlike_7 fX12_20 rfl ?_
    refine slv_iload_n eX12_areAlike_10 rfl ?_
    refine slr_ialdX (k := 5) (p := 71) (len := 12) eX12_areAlike_11 rfl (by repeat (first | exact sl_u_eq | assumption | apply rf_ne (by decide) | exact rfl)) (by omega) (by decide) q2 ?_
    refine slv_icmp_eqN eX12_areAlike_12 (by omega) (by omega) (fun h12 => ?_) (fun h12 => absurd h12 (by omega))
    refine slv_iconst (v := nI 0) eX12_areAlike_17 (by decide) ?_
    refine slv_istore_n (i := 3) (lv' := [_, _, _, _, _, _]) eX12_areAlike_18 rfl (by decide) rfl ?_
    refine loop (sg_lens g r) 0 _ _ (by omega) _ ⟨by rw [sg_same, decide_eq_true he]; rfl, rfl⟩
  · refine slv_aload_n eX12_areAlike_0 rfl ?_
    refine slr_ga (p := 71) eX12_areAlike_1 fX12_20 rfl ?_
    refine slv_iload_n eX12_areAlike_4 rfl ?_
    refine slr_ialdX (k := 5) (p := 71) (len := 12) eX12_areAlike_5 rfl (by repeat (first | exact sl_u_eq | assumption | apply rf_ne (by decide) | exact rfl)) (by omega) (by decide) r2 ?_
    refine slv_aload_n eX12_areAlike_6 rfl ?_
    refine slr_ga (p := 71) eX12_areAlike_7 fX12_20 rfl ?_
    refine slv_iload_n eX12_areAlike_10 rfl ?_
    refine slr_ialdX (k := 5) (p := 71) (len := 12) eX12_areAlike_11 rfl (by repeat (first | exact sl_u_eq | assumption | apply rf_ne (by decide) | exact rfl)) (by omega) (by decide) q2 ?_
    refine slv_icmp_eqN eX12_areAlike_12 (by omega) (by omega) (fun h12 => absurd h12 (by omega)) (fun h12 => ?_)
    refine slv_iconst (v := nI 0) eX12_areAlike_15 (by decide) ?_
    refine slv_zret eX12_areAlike_16 rfl rfl ?_
    exact ⟨by rw [sg_same, decide_eq_false he]; rfl, rfl⟩
theorem rf_sv (hG : rf_G g v a) {r : Nat} (hr : r < sg_rules g) : sl_R YX12_serves 1 [.ref 68, .int (nI r)] (rf_S v w a nm M) (some (.int (sl_bi (!(sg_put g r))))) (rf_S v w a nm M) := by
  have := c_X12_serves (v := v) (w := w) (a := a) (nm := nm) (M := M) (r := r)
  rwa [(hG.2.2.2.2.1 r hr).2.2.2] at this
theorem rf_G0 (hG : rf_G g v a) (x : Int32) : rf_G g (sl_u v 0 x) a := hG
theorem sl_or_or (x y : Int32) : x ||| y ||| y = x ||| y := by rw [Int32.or_assoc, Int32.or_self]
set_option maxRecDepth 100000 in
theorem c_X12_doubles (h21 : v 21 = sl_bi sn) (hok : sg_ok g) (hG : sn = true → rf_G g v a) : sl_R YX12_doubles 2 [.ref 68] (rf_S v w a nm M) (some (.int (an_doubles sn g).1)) (rf_S (rf_an v (an_doubles sn g).2) w a nm M) := by
  have hr12 : sg_rules g ≤ 12 := hok.2.1
  refine sl_T.of_V (lv := [_, _, _, _]) (by decide) rfl (Nat.le_of_ble_eq_true rfl) ?_
  unfold an_doubles
  cases sn with
  | false =>
    refine slv_aload_n eX12_doubles_0 rfl ?_
    refine slv_iconst (v := nI 0) eX12_doubles_1 (by decide) ?_
    refine slr_pi eX12_doubles_2 fX12_149 (Nat.le_of_ble_eq_true rfl) rf_s0 ?_
    refine slv_aload_n eX12_doubles_5 rfl ?_
    refine slr_gi eX12_doubles_6 fX12_317 rfl (by repeat (first | exact sl_u_eq | assumption | apply rf_ne (by decide) | exact rfl)) ?_
    refine slv_if_neB eX12_doubles_9 (fun h9 => absurd h9 (by decide)) (fun h9 => ?_)
    refine slv_aload_n eX12_doubles_12 rfl ?_
    refine slv_iconst (v := nI 1) eX12_doubles_13 (by decide) ?_
    refine slv_rV (As := [_]) eX12_doubles_14 lX12_155 rfl rfl rf_68 rfl (c_X12_refused 1) (by decide) (Nat.le_of_ble_eq_true rfl) ?_
    refine slv_iret eX12_doubles_17 rfl ?_
    exact ⟨rfl, rfl⟩
  | true =>
    have hG1 := rf_G0 (hG rfl) (nI 0)
    obtain ⟨h14, h15, h16, h22, hr, hi, ht⟩ := hG rfl
    have row : ∀ (m i r : Nat) (b : Int32), i + m = r → r < sg_rules g → ∀ Q : Option Value → sl_M → Prop, sl_V YX12_doubles none 2 0 0 Q 82 [some (.ref 68), some (.int (cond (!(sg_put g r) && (sg_sk g r && sl_ex (fun s => !(sg_put g s) && sg_same g r s) m i)) (b ||| (nI 1 <<< (nI r &&& 31))) b)), some (.int (nI r)), some (.int (nI r))] [] (rf_S (sl_u v 0 (nI 0)) w a nm M) → sl_V YX12_doubles none 2 0 0 Q 32 [some (.ref 68), some (.int b), some (.int (nI r)), some (.int (nI i))] [] (rf_S (sl_u v 0 (nI 0)) w a nm M) := by
      intro m
      induction m with
      | zero =>
        intro i r b hi hr Q hQ
        have hi' : i = r := by omega
        subst hi'
        simp only [sl_ex, Bool.and_false, cond_false] at hQ
        refine slv_iload_n eX12_doubles_32 rfl ?_
        refine slv_iload_n eX12_doubles_33 rfl ?_
        refine slv_icmp_geN eX12_doubles_34 (by omega) (by omega) (fun h34 => ?_) (fun h34 => absurd h34 (by omega))
        exact hQ
      | succ m ih =>
        intro i r b hi hr Q hQ
        refine slv_iload_n eX12_doubles_32 rfl ?_
        refine slv_iload_n eX12_doubles_33 rfl ?_
        refine slv_icmp_geN eX12_doubles_34 (by omega) (by omega) (fun h34 => absurd h34 (by omega)) (fun h34 => ?_)
        refine slv_aload_n eX12_doubles_37 rfl ?_
        refine slv_iload_n eX12_doubles_38 rfl ?_
        refine slv_rV (As := [_]) eX12_doubles_39 lX12_348 rfl rfl rf_68 rfl (rf_sv hG1 hr) (by decide) (Nat.le_of_ble_eq_true rfl) ?_
        refine slv_if_eqB eX12_doubles_42 (fun h42 => ?_) (fun h42 => ?_)
        · refine slv_iincN (lv' := [_, _, _, _]) eX12_doubles_76 rfl (by decide) rfl ?_
          refine slv_goto eX12_doubles_79 ?_
          refine ih (i + 1) r _ (by omega) hr Q ?_
          first | (rw [h42] at hQ ⊢; exact hQ) | (rw [h42] at hQ ⊢; simp only [sl_ex, h50, Bool.false_and, Bool.false_or] at hQ; exact hQ) | (rw [h42, h58] at hQ ⊢; exact hQ) | (rw [h42, h58] at hQ ⊢; simp only [sl_ex, h50, h67, Bool.true_and, Bool.false_or] at hQ ⊢; exact hQ) | (rw [h42, h58] at hQ ⊢; simp only [sl_ex, h50, h67, Bool.true_and, Bool.true_or, cond_true] at hQ ⊢; cases hx : sl_ex (fun s => !sg_put g s && sg_same g r s) m (i + 1) with | false => exact hQ | true => rw [cond_true, sl_or_or]; exact hQ)
        · refine slv_aload_n eX12_doubles_45 rfl ?_
          refine slv_iload_n eX12_doubles_46 rfl ?_
          refine slv_rV (As := [_]) eX12_doubles_47 lX12_348 rfl rfl rf_68 rfl (rf_sv hG1 (show i < sg_rules g by omega)) (by decide) (Nat.le_of_ble_eq_true rfl) ?_
          refine slv_if_eqB eX12_doubles_50 (fun h50 => ?_) (fun h50 => ?_)
          · refine slv_iincN (lv' := [_, _, _, _]) eX12_doubles_76 rfl (by decide) rfl ?_
            refine slv_goto eX12_doubles_79 ?_
            refine ih (i + 1) r _ (by omega) hr Q ?_
            first | (rw [h42] at hQ ⊢; exact hQ) | (rw [h42] at hQ ⊢; simp only [sl_ex, h50, Bool.false_and, Bool.false_or] at hQ; exact hQ) | (rw [h42, h58] at hQ ⊢; exact hQ) | (rw [h42, h58] at hQ ⊢; simp only [sl_ex, h50, h67, Bool.true_and, Bool.false_or] at hQ ⊢; exact hQ) | (rw [h42, h58] at hQ ⊢; simp only [sl_ex, h50, h67, Bool.true_and, Bool.true_or, cond_true] at hQ ⊢; cases hx : sl_ex (fun s => !sg_put g s && sg_same g r s) m (i + 1) with | false => exact hQ | true => rw [cond_true, sl_or_or]; exact hQ)
          · refine slv_aload_n eX12_doubles_53 rfl ?_
            refine slv_iload_n eX12_doubles_54 rfl ?_
            refine slv_rV (As := [_]) eX12_doubles_55 lX12_380 rfl rfl rf_68 rfl (c_X12_hasSkeleton hok hG1 hr) (by decide) (Nat.le_of_ble_eq_true rfl) ?_
            refine slv_if_eqB eX12_doubles_58 (fun h58 => ?_) (fun h58 => ?_)
            · refine slv_iincN (lv' := [_, _, _, _]) eX12_doubles_76 rfl (by decide) rfl ?_
              refine slv_goto eX12_doubles_79 ?_
              refine ih (i + 1) r _ (by omega) hr Q ?_
              first | (rw [h42] at hQ ⊢; exact hQ) | (rw [h42] at hQ ⊢; simp only [sl_ex, h50, Bool.false_and, Bool.false_or] at hQ; exact hQ) | (rw [h42, h58] at hQ ⊢; exact hQ) | (rw [h42, h58] at hQ ⊢; simp only [sl_ex, h50, h67, Bool.true_and, Bool.false_or] at hQ ⊢; exact hQ) | (rw [h42, h58] at hQ ⊢; simp only [sl_ex, h50, h67, Bool.true_and, Bool.true_or, cond_true] at hQ ⊢; cases hx : sl_ex (fun s => !sg_put g s && sg_same g r s) m (i + 1) with | false => exact hQ | true => rw [cond_true, sl_or_or]; exact hQ)
            · refine slv_aload_n eX12_doubles_61 rfl ?_
              refine slv_iload_n eX12_doubles_62 rfl ?_
              refine slv_iload_n eX12_doubles_63 rfl ?_
              refine slv_rV (As := [_, _]) eX12_doubles_64 lX12_383 rfl rfl rf_68 rfl (c_X12_areAlike hok hG1 hr (by omega)) (by decide) (Nat.le_of_ble_eq_true rfl) ?_
              refine slv_if_eqB eX12_doubles_67 (fun h67 => ?_) (fun h67 => ?_)
              · refine slv_iincN (lv' := [_, _, _, _]) eX12_doubles_76 rfl (by decide) rfl ?_
                refine slv_goto eX12_doubles_79 ?_
                refine ih (i + 1) r _ (by omega) hr Q ?_
                first | (rw [h42] at hQ ⊢; exact hQ) | (rw [h42] at hQ ⊢; simp only [sl_ex, h50, Bool.false_and, Bool.false_or] at hQ; exact hQ) | (rw [h42, h58] at hQ ⊢; exact hQ) | (rw [h42, h58] at hQ ⊢; simp only [sl_ex, h50, h67, Bool.true_and, Bool.false_or] at hQ ⊢; exact hQ) | (rw [h42, h58] at hQ ⊢; simp only [sl_ex, h50, h67, Bool.true_and, Bool.true_or, cond_true] at hQ ⊢; cases hx : sl_ex (fun s => !sg_put g s && sg_same g r s) m (i + 1) with | false => exact hQ | true => rw [cond_true, sl_or_or]; exact hQ)
              · refine slv_iload_n eX12_doubles_70 rfl ?_
                refine slv_iconst (v := nI 1) eX12_doubles_71 (by decide) ?_
                refine slv_iload_n eX12_doubles_72 rfl ?_
                refine slv_ishl eX12_doubles_73 ?_
                refine slv_ior eX12_doubles_74 ?_
                refine slv_istore_n (i := 1) (lv' := [_, _, _, _]) eX12_doubles_75 rfl (by decide) rfl ?_
                refine slv_iincN (lv' := [_, _, _, _]) eX12_doubles_76 rfl (by decide) rfl ?_
                refine slv_goto eX12_doubles_79 ?_
                refine ih (i + 1) r _ (by omega) hr Q ?_
                first | (rw [h42] at hQ ⊢; exact hQ) | (rw [h42] at hQ ⊢; simp only [sl_ex, h50, Bool.false_and, Bool.false_or] at hQ; exact hQ) | (rw [h42, h58] at hQ ⊢; exact hQ) | (rw [h42, h58] at hQ ⊢; simp only [sl_ex, h50, h67, Bool.true_and, Bool.false_or] at hQ ⊢; exact hQ) | (rw [h42, h58] at hQ ⊢; simp only [sl_ex, h50, h67, Bool.true_and, Bool.true_or, cond_true] at hQ ⊢; cases hx : sl_ex (fun s => !sg_put g s && sg_same g r s) m (i + 1) with | false => exact hQ | true => rw [cond_true, sl_or_or]; exact hQ)
    have rows : ∀ (m i : Nat) (b : Int32) (y : Option Value), i + m = sg_rules g → ∀ Q : Option Value → sl_M → Prop, Q (some (.int (sl_fo (fun r (a : Int32) => cond (sg_db g r) (a ||| (1 <<< (nI r &&& 31))) a) m i b))) (rf_S (rf_an v 0) w a nm M) → sl_V YX12_doubles none 2 0 0 Q 22 [some (.ref 68), some (.int b), some (.int (nI i)), y] [] (rf_S (sl_u v 0 (nI 0)) w a nm M) := by
      intro m
      induction m with
      | zero =>
        intro i b y hi Q hQ
        refine slv_iload_n eX12_doubles_22 rfl ?_
        refine slv_aload_n eX12_doubles_23 rfl ?_
        refine slr_gi eX12_doubles_24 fX12_311 rfl (by repeat (first | exact sl_u_eq | assumption | apply rf_ne (by decide) | exact rfl)) ?_
        refine slv_icmp_geN eX12_doubles_27 (by omega) (by omega) (fun h27 => ?_) (fun h27 => absurd h27 (by omega))
        refine slv_aload_n eX12_doubles_88 rfl ?_
        refine slv_iload_n eX12_doubles_89 rfl ?_
        refine slv_rV (As := [_]) eX12_doubles_90 lX12_314 rfl rfl rf_68 rfl (c_X12_good _) (by decide) (Nat.le_of_ble_eq_true rfl) ?_
        refine slv_iret eX12_doubles_93 rfl ?_
        exact hQ
      | succ m ih =>
        intro i b y hi Q hQ
        refine slv_iload_n eX12_doubles_22 rfl ?_
        refine slv_aload_n eX12_doubles_23 rfl ?_
        refine slr_gi eX12_doubles_24 fX12_311 rfl (by repeat (first | exact sl_u_eq | assumption | apply rf_ne (by decide) | exact rfl)) ?_
        refine slv_icmp_geN eX12_doubles_27 (by omega) (by omega) (fun h27 => absurd h27 (by omega)) (fun h27 => ?_)
        refine slv_iconst (v := nI 0) eX12_doubles_30 (by decide) ?_
        refine slv_istore_n (i := 3) (lv' := [_, _, _, _]) eX12_doubles_31 rfl (by decide) rfl ?_
        refine row i 0 i b (by omega) (by omega) Q ?_
        refine slv_iincN (lv' := [_, _, _, _]) eX12_doubles_82 rfl (by decide) rfl ?_
        refine slv_goto eX12_doubles_85 ?_
        refine ih (i + 1) _ _ (by omega) Q ?_
        rw [← Bool.and_assoc]
        exact hQ
    refine slv_aload_n eX12_doubles_0 rfl ?_
    refine slv_iconst (v := nI 0) eX12_doubles_1 (by decide) ?_
    refine slr_pi eX12_doubles_2 fX12_149 (Nat.le_of_ble_eq_true rfl) rf_s0 ?_
    refine slv_aload_n eX12_doubles_5 rfl ?_
    refine slr_gi eX12_doubles_6 fX12_317 rfl (by repeat (first | exact sl_u_eq | assumption | apply rf_ne (by decide) | exact rfl)) ?_
    refine slv_if_neB eX12_doubles_9 (fun h9 => ?_) (fun h9 => absurd h9 (by decide))
    refine slv_iconst (v := nI 0) eX12_doubles_18 (by decide) ?_
    refine slv_istore_n (i := 1) (lv' := [_, _, _, _]) eX12_doubles_19 rfl (by decide) rfl ?_
    refine slv_iconst (v := nI 0) eX12_doubles_20 (by decide) ?_
    refine slv_istore_n (i := 2) (lv' := [_, _, _, _]) eX12_doubles_21 rfl (by decide) rfl ?_
    exact rows (sg_rules g) 0 0 _ (by omega) _ ⟨rfl, rfl⟩
set_option maxRecDepth 100000 in
theorem c_X12_asideMany (hok : sg_ok g) (hG : rf_G g v a) : sl_R YX12_asideMany 2 [.ref 68] (rf_S v w a nm M) (some (.int (nI (sl_ct (sg_put g) (sg_rules g) 0)))) (rf_S v w a nm M) := by
  have hr12 : sg_rules g ≤ 12 := hok.2.1
  have hG1 := hG
  obtain ⟨h14, h15, h16, h22, hr, hi, ht⟩ := hG
  refine sl_T.of_V (lv := [_, _, _]) (by decide) rfl (Nat.le_of_ble_eq_true rfl) ?_
  have loop : ∀ n i b : Nat, i + n = sg_rules g → ∀ Q : Option Value → sl_M → Prop, Q (some (.int (nI (b + sl_ct (sg_put g) n i)))) (rf_S v w a nm M) → sl_V YX12_asideMany none 2 0 0 Q 4 [some (.ref 68), some (.int (nI b)), some (.int (nI i))] [] (rf_S v w a nm M) := by
    intro n
    induction n with
    | zero =>
      intro i b hi Q hQ
      refine slv_iload_n eX12_asideMany_4 rfl ?_
      refine slv_aload_n eX12_asideMany_5 rfl ?_
      refine slr_gi eX12_asideMany_6 fX12_311 rfl (by repeat (first | exact sl_u_eq | assumption | apply rf_ne (by decide) | exact rfl)) ?_
      refine slv_icmp_geN eX12_asideMany_9 (by omega) (by omega) (fun h9 => ?_) (fun h9 => absurd h9 (by omega))
      refine slv_iload_n eX12_asideMany_34 rfl ?_
      refine slv_iret eX12_asideMany_35 rfl ?_
      exact hQ
    | succ n ih =>
      intro i b hi Q hQ
      refine slv_iload_n eX12_asideMany_4 rfl ?_
      refine slv_aload_n eX12_asideMany_5 rfl ?_
      refine slr_gi eX12_asideMany_6 fX12_311 rfl (by repeat (first | exact sl_u_eq | assumption | apply rf_ne (by decide) | exact rfl)) ?_
      refine slv_icmp_geN eX12_asideMany_9 (by omega) (by omega) (fun h9 => absurd h9 (by omega)) (fun h9 => ?_)
      refine slv_iload_n eX12_asideMany_12 rfl ?_
      refine slv_aload_n eX12_asideMany_13 rfl ?_
      refine slv_iload_n eX12_asideMany_14 rfl ?_
      refine slv_rV (As := [_]) eX12_asideMany_15 lX12_348 rfl rfl rf_68 rfl (rf_sv hG1 (by omega)) (by decide) (Nat.le_of_ble_eq_true rfl) ?_
      refine slv_if_eqB eX12_asideMany_18 (fun h18 => ?_) (fun h18 => ?_)
      · refine slv_iconst (v := nI 1) eX12_asideMany_25 (by decide) ?_
        refine slv_iaddN eX12_asideMany_26 ?_
        refine slv_istore_n (i := 1) (lv' := [_, _, _]) eX12_asideMany_27 rfl (by decide) rfl ?_
        refine slv_iincN (lv' := [_, _, _]) eX12_asideMany_28 rfl (by decide) rfl ?_
        refine slv_goto eX12_asideMany_31 ?_
        refine ih (i + 1) _ (by omega) Q ?_
        rw [Bool.not_eq_eq_eq_not] at h18
        simp only [sl_ct, h18, Bool.not_false, Bool.not_true, cond_true, cond_false] at hQ
        first | (rw [Nat.zero_add] at hQ; exact hQ) | (rw [← Nat.add_assoc] at hQ; exact hQ)
      · refine slv_iconst (v := nI 0) eX12_asideMany_21 (by decide) ?_
        refine slv_goto eX12_asideMany_22 ?_
        refine slv_iaddN eX12_asideMany_26 ?_
        refine slv_istore_n (i := 1) (lv' := [_, _, _]) eX12_asideMany_27 rfl (by decide) rfl ?_
        refine slv_iincN (lv' := [_, _, _]) eX12_asideMany_28 rfl (by decide) rfl ?_
        refine slv_goto eX12_asideMany_31 ?_
        refine ih (i + 1) _ (by omega) Q ?_
        rw [Bool.not_eq_eq_eq_not] at h18
        simp only [sl_ct, h18, Bool.not_false, Bool.not_true, cond_true, cond_false] at hQ
        first | (rw [Nat.zero_add] at hQ; exact hQ) | (rw [← Nat.add_assoc] at hQ; exact hQ)
  refine slv_iconst (v := nI 0) eX12_asideMany_0 (by decide) ?_
  refine slv_istore_n (i := 1) (lv' := [_, _, _]) eX12_asideMany_1 rfl (by decide) rfl ?_
  refine slv_iconst (v := nI 0) eX12_asideMany_2 (by decide) ?_
  refine slv_istore_n (i := 2) (lv' := [_, _, _]) eX12_asideMany_3 rfl (by decide) rfl ?_
  refine loop (sg_rules g) 0 0 (by omega) _ ⟨by rw [Nat.zero_add], rfl⟩
set_option maxRecDepth 100000 in
theorem c_X12_isBarren (hok : sg_ok g) (hG : rf_G g v a) {x : Nat} (hx : x < 100) : sl_R YX12_isBarren 2 [.ref 68, .int (nI x)] (rf_S v w a nm M) (some (.int (sl_bi (sg_bn g x)))) (rf_S v w a nm M) := by
  have hr12 : sg_rules g ≤ 12 := hok.2.1
  have hG1 := hG
  obtain ⟨h14, h15, h16, h22, hr, hi, ht⟩ := hG
  refine sl_T.of_V (lv := [_, _, _]) (by decide) rfl (Nat.le_of_ble_eq_true rfl) ?_
  have loop : ∀ n i : Nat, i + n = sg_rules g → ∀ Q : Option Value → sl_M → Prop, Q (some (.int (sl_bi (!(sl_ex (fun r => decide (sg_heads g r = x) && !(sg_put g r)) n i))))) (rf_S v w a nm M) → sl_V YX12_isBarren none 2 0 0 Q 2 [some (.ref 68), some (.int (nI x)), some (.int (nI i))] [] (rf_S v w a nm M) := by
    intro n
    induction n with
    | zero =>
      intro i hi Q hQ
      refine slv_iload_n eX12_isBarren_2 rfl ?_
      refine slv_aload_n eX12_isBarren_3 rfl ?_
      refine slr_gi eX12_isBarren_4 fX12_311 rfl (by repeat (first | exact sl_u_eq | assumption | apply rf_ne (by decide) | exact rfl)) ?_
      refine slv_icmp_geN eX12_isBarren_7 (by omega) (by omega) (fun h7 => ?_) (fun h7 => absurd h7 (by omega))
      refine slv_iconst (v := nI 1) eX12_isBarren_36 (by decide) ?_
      refine slv_zret eX12_isBarren_37 rfl rfl ?_
      exact hQ
    | succ n ih =>
      intro i hi Q hQ
      have hh := (hok.2.2.2.2.2.1 i (by omega)).1
      refine slv_iload_n eX12_isBarren_2 rfl ?_
      refine slv_aload_n eX12_isBarren_3 rfl ?_
      refine slr_gi eX12_isBarren_4 fX12_311 rfl (by repeat (first | exact sl_u_eq | assumption | apply rf_ne (by decide) | exact rfl)) ?_
      refine slv_icmp_geN eX12_isBarren_7 (by omega) (by omega) (fun h7 => absurd h7 (by omega)) (fun h7 => ?_)
      refine slv_aload_n eX12_isBarren_10 rfl ?_
      refine slv_iload_n eX12_isBarren_11 rfl ?_
      refine slv_rV (As := [_]) eX12_isBarren_12 lX12_348 rfl rfl rf_68 rfl (rf_sv hG1 (by omega)) (by decide) (Nat.le_of_ble_eq_true rfl) ?_
      refine slv_if_eqB eX12_isBarren_15 (fun h15 => ?_) (fun h15 => ?_)
      · refine slv_iincN (lv' := [_, _, _]) eX12_isBarren_30 rfl (by decide) rfl ?_
        refine slv_goto eX12_isBarren_33 ?_
        refine ih (i + 1) (by omega) Q ?_
        first | (simp only [sl_ex, h15, Bool.and_false, Bool.false_or] at hQ; exact hQ) | (simp only [sl_ex, h25, decide_false, Bool.false_and, Bool.false_or] at hQ; exact hQ)
      · refine slv_aload_n eX12_isBarren_18 rfl ?_
        refine slr_ga (p := 69) eX12_isBarren_19 fX12_13 rfl ?_
        refine slv_iload_n eX12_isBarren_22 rfl ?_
        refine slr_ialdX (k := 3) (p := 69) (len := 12) eX12_isBarren_23 rfl (by repeat (first | exact sl_u_eq | assumption | apply rf_ne (by decide) | exact rfl)) (by omega) (by decide) (hr i (by omega)).1 ?_
        refine slv_iload_n eX12_isBarren_24 rfl ?_
        refine slv_icmp_neN eX12_isBarren_25 (by omega) (by omega) (fun h25 => ?_) (fun h25 => ?_)
        · refine slv_iincN (lv' := [_, _, _]) eX12_isBarren_30 rfl (by decide) rfl ?_
          refine slv_goto eX12_isBarren_33 ?_
          refine ih (i + 1) (by omega) Q ?_
          first | (simp only [sl_ex, h15, Bool.and_false, Bool.false_or] at hQ; exact hQ) | (simp only [sl_ex, h25, decide_false, Bool.false_and, Bool.false_or] at hQ; exact hQ)
        · refine slv_iconst (v := nI 0) eX12_isBarren_28 (by decide) ?_
          refine slv_zret eX12_isBarren_29 rfl rfl ?_
          simp only [sl_ex, h15, h25, decide_true, Bool.true_and, Bool.true_or] at hQ
          exact hQ
  refine slv_iconst (v := nI 0) eX12_isBarren_0 (by decide) ?_
  refine slv_istore_n (i := 2) (lv' := [_, _, _]) eX12_isBarren_1 rfl (by decide) rfl ?_
  exact loop (sg_rules g) 0 (by omega) _ ⟨rfl, rfl⟩
set_option maxRecDepth 100000 in
theorem c_X12_barren (h21 : v 21 = sl_bi sn) (hok : sg_ok g) (hG : sn = true → rf_G g v a) (x : Int32) : sl_R YX12_barren 3 [.ref 68, .int x] (rf_S v w a nm M) (some (.int (nI ((cond sn (bn_r g x (sg_names g) 0 0) none).getD 0)))) (rf_S (sl_u v 0 (nI (if (cond sn (bn_r g x (sg_names g) 0 0) none) = none then 1 else 0))) w a nm M) := by
  have hn6 : sg_names g ≤ 6 := hok.2.2.1
  have hu : ∀ y : Int32, sl_u (sl_u v 0 (nI 0)) 0 y = sl_u v 0 y := by
    intro y; funext j; simp only [sl_u]; by_cases h : j = 0 <;> simp [h]
  refine sl_T.of_V (lv := [_, _, _, _]) (by decide) rfl (Nat.le_of_ble_eq_true rfl) ?_
  cases sn with
  | false =>
    refine slv_aload_n eX12_barren_0 rfl ?_
    refine slv_iconst (v := nI 0) eX12_barren_1 (by decide) ?_
    refine slr_pi eX12_barren_2 fX12_149 (Nat.le_of_ble_eq_true rfl) rf_s0 ?_
    refine slv_iconst (v := nI 0) eX12_barren_5 (by decide) ?_
    refine slv_istore_n (i := 2) (lv' := [_, _, _, _]) eX12_barren_6 rfl (by decide) rfl ?_
    refine slv_iconst (v := nI 0) eX12_barren_7 (by decide) ?_
    refine slv_istore_n (i := 3) (lv' := [_, _, _, _]) eX12_barren_8 rfl (by decide) rfl ?_
    refine slv_aload_n eX12_barren_9 rfl ?_
    refine slr_gi eX12_barren_10 fX12_317 rfl (by repeat (first | exact sl_u_eq | assumption | apply rf_ne (by decide) | exact rfl)) ?_
    refine slv_if_eqB eX12_barren_13 (fun h13 => ?_) (fun h13 => absurd h13 (by decide))
    refine slv_aload_n eX12_barren_51 rfl ?_
    refine slv_iconst (v := nI 1) eX12_barren_52 (by decide) ?_
    refine slr_pi eX12_barren_53 fX12_149 (Nat.le_of_ble_eq_true rfl) rf_s0 ?_
    rw [hu]
    refine slv_iconst (v := nI 0) eX12_barren_56 (by decide) ?_
    refine slv_iret eX12_barren_57 rfl ?_
    exact ⟨rfl, rfl⟩
  | true =>
    have hG1 := rf_G0 (hG rfl) (nI 0)
    obtain ⟨h14, h15, h16, h22, hr, hi, ht⟩ := hG rfl
    have loop : ∀ m i k : Nat, i + m = sg_names g → ∀ Q : Option Value → sl_M → Prop, Q (some (.int (nI ((bn_r g x m i k).getD 0)))) (rf_S (sl_u v 0 (nI (if bn_r g x m i k = none then 1 else 0))) w a nm M) → sl_V YX12_barren none 3 0 0 Q 9 [some (.ref 68), some (.int x), some (.int (nI k)), some (.int (nI i))] [] (rf_S (sl_u v 0 (nI 0)) w a nm M) := by
      intro m
      induction m with
      | zero =>
        intro i k hi Q hQ
        refine slv_aload_n eX12_barren_9 rfl ?_
        refine slr_gi eX12_barren_10 fX12_317 rfl (by repeat (first | exact sl_u_eq | assumption | apply rf_ne (by decide) | exact rfl)) ?_
        refine slv_if_eqB eX12_barren_13 (fun h13 => absurd h13 (by decide)) (fun h13 => ?_)
        refine slv_iload_n eX12_barren_16 rfl ?_
        refine slv_aload_n eX12_barren_17 rfl ?_
        refine slr_gi eX12_barren_18 fX12_321 rfl (by repeat (first | exact sl_u_eq | assumption | apply rf_ne (by decide) | exact rfl)) ?_
        refine slv_icmp_geN eX12_barren_21 (by omega) (by omega) (fun h21 => ?_) (fun h21 => absurd h21 (by omega))
        refine slv_aload_n eX12_barren_51 rfl ?_
        refine slv_iconst (v := nI 1) eX12_barren_52 (by decide) ?_
        refine slr_pi eX12_barren_53 fX12_149 (Nat.le_of_ble_eq_true rfl) rf_s0 ?_
        rw [hu]
        refine slv_iconst (v := nI 0) eX12_barren_56 (by decide) ?_
        refine slv_iret eX12_barren_57 rfl ?_
        exact hQ
      | succ m ih =>
        intro i k hi Q hQ
        refine slv_aload_n eX12_barren_9 rfl ?_
        refine slr_gi eX12_barren_10 fX12_317 rfl (by repeat (first | exact sl_u_eq | assumption | apply rf_ne (by decide) | exact rfl)) ?_
        refine slv_if_eqB eX12_barren_13 (fun h13 => absurd h13 (by decide)) (fun h13 => ?_)
        refine slv_iload_n eX12_barren_16 rfl ?_
        refine slv_aload_n eX12_barren_17 rfl ?_
        refine slr_gi eX12_barren_18 fX12_321 rfl (by repeat (first | exact sl_u_eq | assumption | apply rf_ne (by decide) | exact rfl)) ?_
        refine slv_icmp_geN eX12_barren_21 (by omega) (by omega) (fun h21 => absurd h21 (by omega)) (fun h21 => ?_)
        refine slv_aload_n eX12_barren_24 rfl ?_
        refine slv_iload_n eX12_barren_25 rfl ?_
        refine slv_rV (As := [_]) eX12_barren_26 lX12_563 rfl rfl rf_68 rfl (c_X12_isBarren hok hG1 (by omega)) (by decide) (Nat.le_of_ble_eq_true rfl) ?_
        refine slv_if_neB eX12_barren_29 (fun h29 => ?_) (fun h29 => ?_)
        · refine slv_iload_n eX12_barren_35 rfl ?_
          refine slv_iload_n eX12_barren_36 rfl ?_
          refine slv_icmp_ne eX12_barren_37 (fun h37 => ?_) (fun h37 => ?_)
          · refine slv_iincN (lv' := [_, _, _, _]) eX12_barren_42 rfl (by decide) rfl ?_
            refine slv_iincN (lv' := [_, _, _, _]) eX12_barren_45 rfl (by decide) rfl ?_
            refine slv_goto eX12_barren_48 ?_
            first | (refine ih (i + 1) k (by omega) Q ?_; simp only [bn_r, h29, cond_false] at hQ; exact hQ) | (refine ih (i + 1) (k + 1) (by omega) Q ?_; simp only [bn_r, h29, cond_true, if_neg h37] at hQ; exact hQ)
          · refine slv_iload_n eX12_barren_40 rfl ?_
            refine slv_iret eX12_barren_41 rfl ?_
            simp only [bn_r, h29, cond_true, if_pos h37] at hQ
            exact hQ
        · refine slv_goto eX12_barren_32 ?_
          refine slv_iincN (lv' := [_, _, _, _]) eX12_barren_45 rfl (by decide) rfl ?_
          refine slv_goto eX12_barren_48 ?_
          first | (refine ih (i + 1) k (by omega) Q ?_; simp only [bn_r, h29, cond_false] at hQ; exact hQ) | (refine ih (i + 1) (k + 1) (by omega) Q ?_; simp only [bn_r, h29, cond_true, if_neg h37] at hQ; exact hQ)
    refine slv_aload_n eX12_barren_0 rfl ?_
    refine slv_iconst (v := nI 0) eX12_barren_1 (by decide) ?_
    refine slr_pi eX12_barren_2 fX12_149 (Nat.le_of_ble_eq_true rfl) rf_s0 ?_
    refine slv_iconst (v := nI 0) eX12_barren_5 (by decide) ?_
    refine slv_istore_n (i := 2) (lv' := [_, _, _, _]) eX12_barren_6 rfl (by decide) rfl ?_
    refine slv_iconst (v := nI 0) eX12_barren_7 (by decide) ?_
    refine slv_istore_n (i := 3) (lv' := [_, _, _, _]) eX12_barren_8 rfl (by decide) rfl ?_
    exact loop (sg_names g) 0 0 (by omega) _ ⟨rfl, rfl⟩
set_option maxRecDepth 100000 in
theorem c_X12_size (h21 : v 21 = sl_bi sn) (hok : sg_ok g) (hG : sn = true → rf_G g v a) {fd ac : Nat} (h28 : v 28 = nI fd) (h26 : v 26 = nI ac) (x : Int32) : sl_R YX12_size 3 [.ref 68, .int x] (rf_S v w a nm M) (some (.int (an_size sn g fd ac x))) (rf_S (sl_u v 0 (nI 0)) w a nm M) := by
  refine sl_T.of_V (lv := [_, _]) (by decide) rfl (Nat.le_of_ble_eq_true rfl) ?_
  unfold an_size
  cases hv : sl_vi x 3 with
  | none =>
    refine slv_aload_n eX12_size_0 rfl ?_
    refine slv_iconst (v := nI 0) eX12_size_1 (by decide) ?_
    refine slr_pi eX12_size_2 fX12_149 (Nat.le_of_ble_eq_true rfl) rf_s0 ?_
    refine slv_iload_n eX12_size_5 rfl ?_
    refine slv_tableOut (t := 58) eX12_size_6 (by have := vi_none hv; omega) (by decide) ?_
    refine slv_iconst (v := (-1)) eX12_size_58 (by decide) ?_
    refine slv_iret eX12_size_59 rfl ?_
    exact ⟨rfl, rfl⟩
  | some k =>
    obtain ⟨hx, hk⟩ := vi_some hv
    subst hx
    rcases (show k = 0 ∨ k = 1 ∨ k = 2 by omega) with e | e | e <;> subst e
    · refine slv_aload_n eX12_size_0 rfl ?_
      refine slv_iconst (v := nI 0) eX12_size_1 (by decide) ?_
      refine slr_pi eX12_size_2 fX12_149 (Nat.le_of_ble_eq_true rfl) rf_s0 ?_
      refine slv_iload_n eX12_size_5 rfl ?_
      refine slv_tableIn (off := 26) (t := 32) eX12_size_6 (by decide) (by decide) (by decide) (by decide) ?_
      refine slv_aload_n eX12_size_32 rfl ?_
      refine slr_gi eX12_size_33 fX12_302 rfl (by repeat (first | exact sl_u_eq | assumption | apply rf_ne (by decide) | exact rfl)) ?_
      refine slv_iret eX12_size_36 rfl ?_
      exact ⟨rfl, rfl⟩
    · refine slv_aload_n eX12_size_0 rfl ?_
      refine slv_iconst (v := nI 0) eX12_size_1 (by decide) ?_
      refine slr_pi eX12_size_2 fX12_149 (Nat.le_of_ble_eq_true rfl) rf_s0 ?_
      refine slv_iload_n eX12_size_5 rfl ?_
      refine slv_tableIn (off := 31) (t := 37) eX12_size_6 (by decide) (by decide) (by decide) (by decide) ?_
      refine slv_aload_n eX12_size_37 rfl ?_
      refine slr_gi eX12_size_38 fX12_333 rfl (by repeat (first | exact sl_u_eq | assumption | apply rf_ne (by decide) | exact rfl)) ?_
      refine slv_iret eX12_size_41 rfl ?_
      exact ⟨rfl, rfl⟩
    · cases sn with
      | false =>
        refine slv_aload_n eX12_size_0 rfl ?_
        refine slv_iconst (v := nI 0) eX12_size_1 (by decide) ?_
        refine slr_pi eX12_size_2 fX12_149 (Nat.le_of_ble_eq_true rfl) rf_s0 ?_
        refine slv_iload_n eX12_size_5 rfl ?_
        refine slv_tableIn (off := 36) (t := 42) eX12_size_6 (by decide) (by decide) (by decide) (by decide) ?_
        refine slv_aload_n eX12_size_42 rfl ?_
        refine slr_gi eX12_size_43 fX12_317 rfl (by repeat (first | exact sl_u_eq | assumption | apply rf_ne (by decide) | exact rfl)) ?_
        refine slv_if_eqB eX12_size_46 (fun h46 => ?_) (fun h46 => absurd h46 (by decide))
        refine slv_iconst (v := nI 0) eX12_size_56 (by decide) ?_
        refine slv_iret eX12_size_57 rfl ?_
        exact ⟨rfl, rfl⟩
      | true =>
        refine slv_aload_n eX12_size_0 rfl ?_
        refine slv_iconst (v := nI 0) eX12_size_1 (by decide) ?_
        refine slr_pi eX12_size_2 fX12_149 (Nat.le_of_ble_eq_true rfl) rf_s0 ?_
        refine slv_iload_n eX12_size_5 rfl ?_
        refine slv_tableIn (off := 36) (t := 42) eX12_size_6 (by decide) (by decide) (by decide) (by decide) ?_
        refine slv_aload_n eX12_size_42 rfl ?_
        refine slr_gi eX12_size_43 fX12_317 rfl (by repeat (first | exact sl_u_eq | assumption | apply rf_ne (by decide) | exact rfl)) ?_
        refine slv_if_eqB eX12_size_46 (fun h46 => absurd h46 (by decide)) (fun h46 => ?_)
        refine slv_aload_n eX12_size_49 rfl ?_
        refine slv_rV (As := []) eX12_size_50 lX12_560 rfl rfl rf_68 rfl (c_X12_asideMany hok (rf_G0 (hG rfl) (nI 0))) (by decide) (Nat.le_of_ble_eq_true rfl) ?_
        refine slv_goto eX12_size_53 ?_
        refine slv_iret eX12_size_57 rfl ?_
        exact ⟨rfl, rfl⟩
end RQ
