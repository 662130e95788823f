/-! the reference reads the desk's line, and lines -/
def rfk (v : Nat → Int32) (a : Nat → Nat → Int32) (v' : Nat → Int32) (a' : Nat → Nat → Int32) : Prop := (∀ k, k ∉ [20, 17, 18, 19, 30, 31, 32, 33, 34] → v' k = v k) ∧ (∀ k, k ∉ [8, 9, 10, 11, 12] → a' k = a k)
theorem rfk_t {v v1 v2 : Nat → Int32} {a a1 a2 : Nat → Nat → Int32} (h : rfk v a v1 a1) (h2 : rfk v1 a1 v2 a2) : rfk v a v2 a2 := ⟨fun k hk => (h2.1 k hk).trans (h.1 k hk), fun k hk => (h2.2 k hk).trans (h.2 k hk)⟩
theorem rfk_r {v v1 : Nat → Int32} {a a1 : Nat → Nat → Int32} (h : rfr v a v1 a1) : rfk v a v1 a1 := ⟨fun k hk => h.1 k (fun q => hk (List.mem_cons_of_mem _ q)), h.2⟩
def rLq (f : Nat → Int32) (ln : Nat) (M : sl_M) (C : gr_T × sg_T) (v : Nat → Int32) (a : Nat → Nat → Int32) (Q : Option Value → sl_M → Prop) : Prop := ∀ v' w' a' nm' C', rst f ln C C' → rfk v a v' a' → ((rOK ln 7 C' v' w' a' nm' ∧ rkd C' v') ∨ rBAD C' v') → Q none (rf_S v' w' a' nm' M)
theorem rLq_t {f : Nat → Int32} {ln : Nat} {M : sl_M} {C C1 : gr_T × sg_T} {v v1 : Nat → Int32} {a a1 : Nat → Nat → Int32} {Q : Option Value → sl_M → Prop} (h : rLq f ln M C v a Q) (h1 : rst f ln C C1) (h2 : rfk v a v1 a1) : rLq f ln M C1 v1 a1 Q := fun v' w' a' nm' C' q1 q2 q3 => h v' w' a' nm' C' (rst_t h1 q1) (rfk_t h2 q2) q3
section RDK
variable {v : Nat → Int32} {w : Int64} {a : Nat → Nat → Int32} {nm : Nat → Int64} {M : sl_M} {f : Nat → Int32} {ln : Nat} {R : gr_T} {g : sg_T} {Q : Option Value → sl_M → Prop}
set_option maxRecDepth 100000 in
theorem rdb14 (hS : st_all) {k : Nat} (hk : 0 < k) (hk2 : k < 100) (h34 : v 34 = nI k) (h31 : v 31 = nI 0) (hQ : Q none (rf_S v w a nm M)) {l1 : Option Value} : sl_V YX12_readDesk none 7 0 0 Q 14 [some (.ref 68), l1] [] (rf_S v w a nm M) := by
  have hH := fun (j : Nat) (h1 : 1 ≤ j) (h2 : j < 15) => rm_isHereB (w := w) (a := a) (nm := nm) (M := M) hS h31 h1 h2
  refine slv_aload_n eX12_readDesk_14 rfl ?_
  refine slv_rV (As := []) eX12_readDesk_15 lX12_220 rfl rfl rf_68 rfl (c_X12_nextB hk hk2 h34) (by decide) (Nat.le_of_ble_eq_true rfl) ?_
  refine slv_aload_n eX12_readDesk_18 rfl ?_
  refine slv_ldcwS (tx := "mixed") 3 eX12_readDesk_19 (by decide +kernel) ?_
  refine slv_rV (As := [_]) eX12_readDesk_22 lX12_212 rfl rfl rf_68 rfl (hH 3 (by decide) (by decide)) (by decide) (Nat.le_of_ble_eq_true rfl) ?_
  refine slv_if_eqB eX12_readDesk_25 (fun h25 => ?_) (fun h25 => absurd h25 (by decide))
  refine slv_aload_n eX12_readDesk_32 rfl ?_
  refine slv_ldcwS (tx := "whole") 4 eX12_readDesk_33 (by decide +kernel) ?_
  refine slv_rV (As := [_]) eX12_readDesk_36 lX12_212 rfl rfl rf_68 rfl (hH 4 (by decide) (by decide)) (by decide) (Nat.le_of_ble_eq_true rfl) ?_
  refine slv_if_eqB eX12_readDesk_39 (fun h39 => ?_) (fun h39 => absurd h39 (by decide))
  refine slv_aload_n eX12_readDesk_46 rfl ?_
  refine slv_ldcwS (tx := "real") 5 eX12_readDesk_47 (by decide +kernel) ?_
  refine slv_rV (As := [_]) eX12_readDesk_50 lX12_212 rfl rfl rf_68 rfl (hH 5 (by decide) (by decide)) (by decide) (Nat.le_of_ble_eq_true rfl) ?_
  refine slv_if_eqB eX12_readDesk_53 (fun h53 => ?_) (fun h53 => absurd h53 (by decide))
  refine slv_iconst (v := (-1)) eX12_readDesk_60 (by decide) ?_
  refine slv_istore_n (i := 1) (lv' := [_, _]) eX12_readDesk_61 rfl (by decide) rfl ?_
  refine slv_iload_n eX12_readDesk_62 rfl ?_
  refine slv_iconst (v := (-1)) eX12_readDesk_63 (by decide) ?_
  refine slv_icmp_ne eX12_readDesk_64 (fun h64 => absurd rfl h64) (fun h64 => ?_)
  refine slv_aload_n eX12_readDesk_67 rfl ?_
  refine slv_iconst (v := nI 1) eX12_readDesk_68 (by decide) ?_
  refine slv_rV (As := [_]) eX12_readDesk_69 lX12_216 rfl rfl rf_68 rfl (c_X12_flawB hk hk2 h34 h31 1) (by decide) (Nat.le_of_ble_eq_true rfl) ?_
  refine slv_aload_n eX12_readDesk_72 rfl ?_
  refine slv_rV (As := []) eX12_readDesk_73 lX12_220 rfl rfl rf_68 rfl (c_X12_nextB hk hk2 h34) (by decide) (Nat.le_of_ble_eq_true rfl) ?_
  refine slv_aload_n eX12_readDesk_76 rfl ?_
  refine slr_gi eX12_readDesk_77 fX12_165 rfl (by repeat (first | exact sl_u_eq | assumption | apply rf_ne (by decide) | exact rfl)) ?_
  refine slv_if_neN eX12_readDesk_80 (by omega) (fun h80 => ?_) (fun h80 => absurd h80 (by omega))
  refine slv_vret eX12_readDesk_88 rfl ?_
  exact hQ
set_option maxRecDepth 100000 in
theorem rm_desk61 (h27 : a 27 = f) (hl : ln ≤ 900) (hC : rOK ln 1 (R, g) v w a nm) (hhd : gr_hd R = true) {kk : Nat} (hkk : kk < 3) (hta : gp_kind R g = (gr_to 7 R, (kk, g.2))) (hQ : rLq f ln M (R, g) v a Q) {l1 : Option Value} : sl_V YX12_readDesk none 7 0 0 Q 61 [some (.ref 68), l1] [.int (nI kk)] (rf_S v w a nm M) := by
  obtain ⟨ht, hg, hk, hs, he, hst⟩ := hC
  simp only at ht hg hk hs he hst
  have h34 := ht.1
  rw [← take_1 hst] at hta
  have hko := gpo_k_take hk
  rw [hta] at hko
  have hst' : stp f ln (R, g) = (gr_tok f ln (gr_to 7 R), (kk, g.2)) := stp_go he hta he
  have hN := c_X12_next (v := v) (w := w) (nm := nm) (M := M) (R := gr_to 7 R) h27 hl ht.2.1 h34 ht.2.2.1 hk.1
  have hkt := gr_tok_k (R := gr_to 7 R) f hk.1
  refine slv_istore_n (i := 1) (lv' := [_, _]) eX12_readDesk_61 rfl (by decide) rfl ?_
  refine slv_iload_n eX12_readDesk_62 rfl ?_
  refine slv_iconst (v := (-1)) eX12_readDesk_63 (by decide) ?_
  refine slv_icmp_ne eX12_readDesk_64 (fun h64 => ?_) (fun h64 => absurd h64 (nI_neg1 (by omega)))
  refine slv_aload_n eX12_readDesk_72 rfl ?_
  refine slv_callV (As := []) eX12_readDesk_73 lX12_220 rfl rfl rf_68 rfl hN (by decide) (Nat.le_of_ble_eq_true rfl) (Nat.zero_add _).symm (Nat.zero_add _).symm (Or.inl rfl) ?_
  rintro _ _ ⟨rfl, v1, w1, rfl, hv1, ht1⟩
  have hf1 := ht1.1
  refine slv_aload_n eX12_readDesk_76 rfl ?_
  refine slr_gi eX12_readDesk_77 fX12_165 rfl (by repeat (first | exact sl_u_eq | assumption | apply rf_ne (by decide) | exact rfl)) ?_
  refine slv_if_ne eX12_readDesk_80 (fun h80 => absurd rfl h80) (fun h80 => ?_)
  refine slv_aload_n eX12_readDesk_83 rfl ?_
  refine slv_iload_n eX12_readDesk_84 rfl ?_
  refine slr_pi eX12_readDesk_85 fX12_242 (Nat.le_of_ble_eq_true rfl) rf_s20 ?_
  refine slv_vret eX12_readDesk_88 rfl ?_
  refine hQ _ _ _ _ _ (rst_1 f ln (R, g)) ⟨fun k hk' => ?_, fun k hk' => rfl⟩ (Or.inl ?_)
  · rw [sl_u_ne (fun e => hk' (by rw [e]; decide))]
    exact hv1 k (fun q => hk' (by revert q; simp; omega))
  · rw [hst']
    refine ⟨rOK_h hk.1 he (rm_t_v2 ht1 (fun k hk' => sl_u_ne (fun e => hk' (by rw [e]; decide)))) (rm_g_v (g := (kk, g.2)) hg (hv1 _ (by decide)) (hv1 _ (by decide)) (hv1 _ (by decide))) hko (gsp_k (gsp_lo hs (by omega)) kk), ?_⟩
    unfold rkd
    simp only
    rw [hkt.1.2.1, show gr_hd (gr_to 7 R) = true from hhd]
    rfl
set_option maxRecDepth 100000 in
theorem rm_desk18 (hS : st_all) (h27 : a 27 = f) (hl : ln ≤ 900) (hC : rOK ln 1 (R, g) v w a nm) (hhd : gr_hd R = true) (hQ : rLq f ln M (R, g) v a Q) {l1 : Option Value} : sl_V YX12_readDesk none 7 0 0 Q 18 [some (.ref 68), l1] [] (rf_S v w a nm M) := by
  have hC' := hC
  obtain ⟨ht, hg, hk, hs, he, hst⟩ := hC
  simp only at ht hg hk hs he hst
  have htk := hk.2.1
  have h34 := ht.1
  have hH := fun (j : Nat) (h1 : 1 ≤ j) (h2 : j < 15) => rm_isHere (a := a) (nm := nm) (M := M) hS ht htk h1 h2
  have hta : gp_kind R g = cond (gr_is R 3) (gr_to 7 R, (0, g.2)) (cond (gr_is R 4) (gr_to 7 R, (1, g.2)) (cond (gr_is R 5) (gr_to 7 R, (2, g.2)) (gr_fl 1 R, g))) := rfl
  cases h3 : gr_is R 3 with
  | true =>
    rw [h3, cond_true] at hta
    have hH3 := hH 3 (by decide) (by decide)
    rw [h3] at hH3
    refine slv_aload_n eX12_readDesk_18 rfl ?_
    refine slv_ldcwS (tx := "mixed") 3 eX12_readDesk_19 (by decide +kernel) ?_
    refine slv_rV (As := [_]) eX12_readDesk_22 lX12_212 rfl rfl rf_68 rfl hH3 (by decide) (Nat.le_of_ble_eq_true rfl) ?_
    refine slv_if_eqB eX12_readDesk_25 (fun h25 => absurd h25 (by decide)) (fun h25 => ?_)
    refine slv_iconst (v := nI 0) eX12_readDesk_28 (by decide) ?_
    refine slv_goto eX12_readDesk_29 ?_
    exact rm_desk61 h27 hl hC' hhd (kk := 0) (by omega) hta hQ
  | false =>
    rw [h3, cond_false] at hta
    have hH3 := hH 3 (by decide) (by decide)
    rw [h3] at hH3
    cases h4 : gr_is R 4 with
    | true =>
      rw [h4, cond_true] at hta
      have hH4 := hH 4 (by decide) (by decide)
      rw [h4] at hH4
      refine slv_aload_n eX12_readDesk_18 rfl ?_
      refine slv_ldcwS (tx := "mixed") 3 eX12_readDesk_19 (by decide +kernel) ?_
      refine slv_rV (As := [_]) eX12_readDesk_22 lX12_212 rfl rfl rf_68 rfl hH3 (by decide) (Nat.le_of_ble_eq_true rfl) ?_
      refine slv_if_eqB eX12_readDesk_25 (fun h25 => ?_) (fun h25 => absurd h25 (by decide))
      refine slv_aload_n eX12_readDesk_32 rfl ?_
      refine slv_ldcwS (tx := "whole") 4 eX12_readDesk_33 (by decide +kernel) ?_
      refine slv_rV (As := [_]) eX12_readDesk_36 lX12_212 rfl rfl rf_68 rfl hH4 (by decide) (Nat.le_of_ble_eq_true rfl) ?_
      refine slv_if_eqB eX12_readDesk_39 (fun h39 => absurd h39 (by decide)) (fun h39 => ?_)
      refine slv_iconst (v := nI 1) eX12_readDesk_42 (by decide) ?_
      refine slv_goto eX12_readDesk_43 ?_
      exact rm_desk61 h27 hl hC' hhd (kk := 1) (by omega) hta hQ
    | false =>
      rw [h4, cond_false] at hta
      have hH4 := hH 4 (by decide) (by decide)
      rw [h4] at hH4
      have hH5 := hH 5 (by decide) (by decide)
      cases h5 : gr_is R 5 with
      | true =>
        rw [h5, cond_true] at hta
        rw [h5] at hH5
        refine slv_aload_n eX12_readDesk_18 rfl ?_
        refine slv_ldcwS (tx := "mixed") 3 eX12_readDesk_19 (by decide +kernel) ?_
        refine slv_rV (As := [_]) eX12_readDesk_22 lX12_212 rfl rfl rf_68 rfl hH3 (by decide) (Nat.le_of_ble_eq_true rfl) ?_
        refine slv_if_eqB eX12_readDesk_25 (fun h25 => ?_) (fun h25 => absurd h25 (by decide))
        refine slv_aload_n eX12_readDesk_32 rfl ?_
        refine slv_ldcwS (tx := "whole") 4 eX12_readDesk_33 (by decide +kernel) ?_
        refine slv_rV (As := [_]) eX12_readDesk_36 lX12_212 rfl rfl rf_68 rfl hH4 (by decide) (Nat.le_of_ble_eq_true rfl) ?_
        refine slv_if_eqB eX12_readDesk_39 (fun h39 => ?_) (fun h39 => absurd h39 (by decide))
        refine slv_aload_n eX12_readDesk_46 rfl ?_
        refine slv_ldcwS (tx := "real") 5 eX12_readDesk_47 (by decide +kernel) ?_
        refine slv_rV (As := [_]) eX12_readDesk_50 lX12_212 rfl rfl rf_68 rfl hH5 (by decide) (Nat.le_of_ble_eq_true rfl) ?_
        refine slv_if_eqB eX12_readDesk_53 (fun h53 => absurd h53 (by decide)) (fun h53 => ?_)
        refine slv_iconst (v := nI 2) eX12_readDesk_56 (by decide) ?_
        refine slv_goto eX12_readDesk_57 ?_
        exact rm_desk61 h27 hl hC' hhd (kk := 2) (by omega) hta hQ
      | false =>
        rw [h5, cond_false] at hta
        rw [h5] at hH5
        rw [← take_1 hst] at hta
        have hq := hQ _ w a nm _ (rst_1 f ln (R, g)) (rfk_r (rfr_fl v a 1)) (by rw [show stp f ln (R, g) = (gr_fl 1 R, g) from stp_fl he hta]; exact Or.inr (rBAD_fl ht (by omega) (by omega)))
        have hNB := c_X12_nextB (v := sl_u (sl_u v 34 (nI 1)) 31 (nI 0)) (w := w) (a := a) (nm := nm) (M := M) (k := 1) (by omega) (by omega) rfl
        refine slv_aload_n eX12_readDesk_18 rfl ?_
        refine slv_ldcwS (tx := "mixed") 3 eX12_readDesk_19 (by decide +kernel) ?_
        refine slv_rV (As := [_]) eX12_readDesk_22 lX12_212 rfl rfl rf_68 rfl hH3 (by decide) (Nat.le_of_ble_eq_true rfl) ?_
        refine slv_if_eqB eX12_readDesk_25 (fun h25 => ?_) (fun h25 => absurd h25 (by decide))
        refine slv_aload_n eX12_readDesk_32 rfl ?_
        refine slv_ldcwS (tx := "whole") 4 eX12_readDesk_33 (by decide +kernel) ?_
        refine slv_rV (As := [_]) eX12_readDesk_36 lX12_212 rfl rfl rf_68 rfl hH4 (by decide) (Nat.le_of_ble_eq_true rfl) ?_
        refine slv_if_eqB eX12_readDesk_39 (fun h39 => ?_) (fun h39 => absurd h39 (by decide))
        refine slv_aload_n eX12_readDesk_46 rfl ?_
        refine slv_ldcwS (tx := "real") 5 eX12_readDesk_47 (by decide +kernel) ?_
        refine slv_rV (As := [_]) eX12_readDesk_50 lX12_212 rfl rfl rf_68 rfl hH5 (by decide) (Nat.le_of_ble_eq_true rfl) ?_
        refine slv_if_eqB eX12_readDesk_53 (fun h53 => ?_) (fun h53 => absurd h53 (by decide))
        refine slv_iconst (v := (-1)) eX12_readDesk_60 (by decide) ?_
        refine slv_istore_n (i := 1) (lv' := [_, _]) eX12_readDesk_61 rfl (by decide) rfl ?_
        refine slv_iload_n eX12_readDesk_62 rfl ?_
        refine slv_iconst (v := (-1)) eX12_readDesk_63 (by decide) ?_
        refine slv_icmp_ne eX12_readDesk_64 (fun h64 => absurd rfl h64) (fun h64 => ?_)
        refine slv_aload_n eX12_readDesk_67 rfl ?_
        refine slv_iconst (v := nI 1) eX12_readDesk_68 (by decide) ?_
        refine slv_rV (As := [_]) eX12_readDesk_69 lX12_216 rfl rfl rf_68 rfl (c_X12_flaw h34 1) (by decide) (Nat.le_of_ble_eq_true rfl) ?_
        refine slv_aload_n eX12_readDesk_72 rfl ?_
        refine slv_rV (As := []) eX12_readDesk_73 lX12_220 rfl rfl rf_68 rfl hNB (by decide) (Nat.le_of_ble_eq_true rfl) ?_
        refine slv_aload_n eX12_readDesk_76 rfl ?_
        refine slr_gi eX12_readDesk_77 fX12_165 rfl (by repeat (first | exact sl_u_eq | assumption | apply rf_ne (by decide) | exact rfl)) ?_
        refine slv_if_neN eX12_readDesk_80 (by omega) (fun h80 => ?_) (fun h80 => absurd h80 (by omega))
        refine slv_vret eX12_readDesk_88 rfl ?_
        exact hq
set_option maxRecDepth 100000 in
theorem rm_readDesk (hS : st_all) (h27 : a 27 = f) (hl : ln ≤ 900) (hC : rOK ln 0 (R, g) v w a nm) (hkd : rkd (R, g) v) (h1 : gr_is R 1 = true) (hQ : rLq f ln M (R, g) v a Q) : sl_T YX12_readDesk 7 0 0 Q [.ref 68] (rf_S v w a nm M) := by
  obtain ⟨ht, hg, hk, hs, he, hst⟩ := hC
  simp only at ht hg hk hs he hst
  have hok := hk.2.2.2.2.1
  have hk2 : sg_kind g ≤ 2 := hok.1
  have h34 := ht.1
  have hta := take_0 (g := g) hst
  unfold gp_line at hta
  rw [h1, cond_true] at hta
  unfold rkd at hkd
  simp only at hkd
  refine sl_T.of_V (lv := [_, _]) (by decide) rfl (Nat.le_of_ble_eq_true rfl) ?_
  cases hd : gr_hd R with
  | true =>
    rw [hd] at hta hkd
    rw [cond_true] at hta hkd
    have hq := hQ _ w a nm _ (rst_1 f ln (R, g)) (rfk_r (rfr_fl v a 6)) (by rw [show stp f ln (R, g) = (gr_fl 6 R, g) from stp_fl he hta]; exact Or.inr (rBAD_fl ht (by omega) (by omega)))
    refine slv_aload_n eX12_readDesk_0 rfl ?_
    refine slr_gi eX12_readDesk_1 fX12_242 rfl (by repeat (first | exact sl_u_eq | assumption | apply rf_ne (by decide) | exact rfl)) ?_
    refine slv_iconst (v := (-1)) eX12_readDesk_4 (by decide) ?_
    refine slv_icmp_eq eX12_readDesk_5 (fun h5 => absurd h5 (nI_neg1 (by omega))) (fun h5 => ?_)
    refine slv_aload_n eX12_readDesk_8 rfl ?_
    refine slv_bipush (v := nI 6) eX12_readDesk_9 (by decide) ?_
    refine slv_rV (As := [_]) eX12_readDesk_11 lX12_216 rfl rfl rf_68 rfl (c_X12_flaw h34 6) (by decide) (Nat.le_of_ble_eq_true rfl) ?_
    exact rdb14 hS (k := 6) (by omega) (by omega) rfl rfl hq
  | false =>
    rw [hd] at hta hkd
    rw [cond_false] at hta hkd
    have hko := gpo_k_take hk
    rw [hta] at hko
    have hst' := stp_go (f := f) (ln := ln) he hta he
    generalize hR1 : ((gr_fa R, gr_pl R, gr_a R, 1, true, gr_en R, gr_tk R, gr_tp R, gr_wd R, gr_sg R) : gr_T) = R1 at hst' hko
    have e1 : gr_a R1 = gr_a R := by rw [← hR1]
    have e2 : gr_st R1 = 1 := by rw [← hR1]
    have e3 : gr_hd R1 = true := by rw [← hR1]
    have e4 : gr_en R1 = gr_en R := by rw [← hR1]
    have hN := c_X12_next (v := v) (w := w) (nm := nm) (M := M) (R := R1) h27 hl ht.2.1 h34 (by rw [e1]; exact ht.2.2.1) (by rw [e1]; exact hk.1)
    have hkt := gr_tok_k (R := R1) f (by rw [e1]; exact hk.1)
    refine slv_aload_n eX12_readDesk_0 rfl ?_
    refine slr_gi eX12_readDesk_1 fX12_242 rfl (by repeat (first | exact sl_u_eq | assumption | apply rf_ne (by decide) | exact rfl)) ?_
    refine slv_iconst (v := (-1)) eX12_readDesk_4 (by decide) ?_
    refine slv_icmp_eq eX12_readDesk_5 (fun h5 => ?_) (fun h5 => absurd rfl h5)
    refine slv_aload_n eX12_readDesk_14 rfl ?_
    refine slv_callV (As := []) eX12_readDesk_15 lX12_220 rfl rfl rf_68 rfl hN (by decide) (Nat.le_of_ble_eq_true rfl) (Nat.zero_add _).symm (Nat.zero_add _).symm (Or.inl rfl) ?_
    rintro _ _ ⟨rfl, v1, w1, rfl, hv1, ht1⟩
    refine rm_desk18 (R := gr_tok f ln R1) hS h27 hl ⟨ht1, rm_g_v hg (hv1 _ (by decide)) (hv1 _ (by decide)) (hv1 _ (by decide)), gpo_k_tok f hko, ?_, hkt.1.2.2.trans (e4.trans he), hkt.1.1.trans e2⟩ (hkt.1.2.1.trans e3) (rLq_t hQ (hst' ▸ rst_1 f ln (R, g)) (rfk_r (rfr_nx a hv1)))
    show gsp (gr_st (gr_tok f ln R1)) g
    rw [hkt.1.1, e2]
    exact gsp_lo hs (by omega)
set_option maxRecDepth 100000 in
theorem rm_readLine (hS : st_all) (h27 : a 27 = f) (hl : ln ≤ 900) (hC : rOK ln 0 (R, g) v w a nm) (hkd : rkd (R, g) v) : sl_T YX12_readLine 10 0 0 (fun r M' => r = none ∧ ∃ v' w' a' nm' C', M' = rf_S v' w' a' nm' M ∧ rst f ln (R, g) C' ∧ rfk v a v' a' ∧ ((rOK ln 7 C' v' w' a' nm' ∧ rkd C' v') ∨ rBAD C' v')) [.ref 68] (rf_S v w a nm M) := by
  have hC' := hC
  obtain ⟨ht, hg, hk, hs, he, hst⟩ := hC
  simp only at ht hg hk hs he hst
  have htk := hk.2.1
  have h34 := ht.1
  have hH1 := rm_isHere (a := a) (nm := nm) (M := M) hS ht htk (j := 1) (by decide) (by decide)
  have hH2 := rm_isHere (a := a) (nm := nm) (M := M) hS ht htk (j := 2) (by decide) (by decide)
  refine sl_T.of_V (lv := [_]) (by decide) rfl (Nat.le_of_ble_eq_true rfl) ?_
  cases h1 : gr_is R 1 with
  | true =>
    rw [h1] at hH1
    have hD := rm_readDesk (M := M) (Q := fun r M' => r = none ∧ ∃ v' w' a' nm' C', M' = rf_S v' w' a' nm' M ∧ rst f ln (R, g) C' ∧ rfk v a v' a' ∧ ((rOK ln 7 C' v' w' a' nm' ∧ rkd C' v') ∨ rBAD C' v')) hS h27 hl hC' hkd h1 (fun v' w' a' nm' C' q1 q2 q3 => ⟨rfl, v', w', a', nm', C', rfl, q1, q2, q3⟩)
    refine slv_aload_n eX12_readLine_0 rfl ?_
    refine slv_ldcS (tx := "desk") 1 eX12_readLine_1 (by decide +kernel) ?_
    refine slv_rV (As := [_]) eX12_readLine_3 lX12_212 rfl rfl rf_68 rfl hH1 (by decide) (Nat.le_of_ble_eq_true rfl) ?_
    refine slv_if_eqB eX12_readLine_6 (fun h6 => absurd h6 (by decide)) (fun h6 => ?_)
    refine slv_aload_n eX12_readLine_9 rfl ?_
    refine slv_callV (As := []) eX12_readLine_10 lX12_252 rfl rfl rf_68 rfl hD (by decide) (Nat.le_of_ble_eq_true rfl) (Nat.zero_add _).symm (Nat.zero_add _).symm (Or.inl rfl) ?_
    rintro _ _ ⟨rfl, v', w', a', nm', C', rfl, q1, q2, q3⟩
    refine slv_goto eX12_readLine_13 ?_
    refine slv_vret eX12_readLine_37 rfl ?_
    exact ⟨rfl, v', w', a', nm', C', rfl, q1, q2, q3⟩
  | false =>
    rw [h1] at hH1
    cases h2 : gr_is R 2 with
    | true =>
      rw [h2] at hH2
      have hD := rm_readRule (M := M) (Q := fun r M' => r = none ∧ ∃ v' w' a' nm' C', M' = rf_S v' w' a' nm' M ∧ rst f ln (R, g) C' ∧ rfk v a v' a' ∧ ((rOK ln 7 C' v' w' a' nm' ∧ rkd C' v') ∨ rBAD C' v')) hS h27 hl hC' hkd h1 h2 (fun v' w' a' nm' C' q1 q2 q3 => ⟨rfl, v', w', a', nm', C', rfl, q1, rfk_r q2, by
        rcases q3 with ⟨b1, b2, b3⟩ | q3
        · refine Or.inl ⟨b1, ?_⟩
          unfold rkd at hkd ⊢
          rw [q2.1 _ (by decide), hkd, b2, b3]
        · exact Or.inr q3⟩)
      refine slv_aload_n eX12_readLine_0 rfl ?_
      refine slv_ldcS (tx := "desk") 1 eX12_readLine_1 (by decide +kernel) ?_
      refine slv_rV (As := [_]) eX12_readLine_3 lX12_212 rfl rfl rf_68 rfl hH1 (by decide) (Nat.le_of_ble_eq_true rfl) ?_
      refine slv_if_eqB eX12_readLine_6 (fun h6 => ?_) (fun h6 => absurd h6 (by decide))
      refine slv_aload_n eX12_readLine_16 rfl ?_
      refine slv_ldcS (tx := "rule") 2 eX12_readLine_17 (by decide +kernel) ?_
      refine slv_rV (As := [_]) eX12_readLine_19 lX12_212 rfl rfl rf_68 rfl hH2 (by decide) (Nat.le_of_ble_eq_true rfl) ?_
      refine slv_if_eqB eX12_readLine_22 (fun h22 => absurd h22 (by decide)) (fun h22 => ?_)
      refine slv_aload_n eX12_readLine_25 rfl ?_
      refine slv_callV (As := []) eX12_readLine_26 lX12_255 rfl rfl rf_68 rfl hD (by decide) (Nat.le_of_ble_eq_true rfl) (Nat.zero_add _).symm (Nat.zero_add _).symm (Or.inl rfl) ?_
      rintro _ _ ⟨rfl, v', w', a', nm', C', rfl, q1, q2, q3⟩
      refine slv_goto eX12_readLine_29 ?_
      refine slv_vret eX12_readLine_37 rfl ?_
      exact ⟨rfl, v', w', a', nm', C', rfl, q1, q2, q3⟩
    | false =>
      rw [h2] at hH2
      have hta := take_0 (g := g) hst
      unfold gp_line at hta
      rw [h1, h2, cond_false, cond_false] at hta
      refine slv_aload_n eX12_readLine_0 rfl ?_
      refine slv_ldcS (tx := "desk") 1 eX12_readLine_1 (by decide +kernel) ?_
      refine slv_rV (As := [_]) eX12_readLine_3 lX12_212 rfl rfl rf_68 rfl hH1 (by decide) (Nat.le_of_ble_eq_true rfl) ?_
      refine slv_if_eqB eX12_readLine_6 (fun h6 => ?_) (fun h6 => absurd h6 (by decide))
      refine slv_aload_n eX12_readLine_16 rfl ?_
      refine slv_ldcS (tx := "rule") 2 eX12_readLine_17 (by decide +kernel) ?_
      refine slv_rV (As := [_]) eX12_readLine_19 lX12_212 rfl rfl rf_68 rfl hH2 (by decide) (Nat.le_of_ble_eq_true rfl) ?_
      refine slv_if_eqB eX12_readLine_22 (fun h22 => ?_) (fun h22 => absurd h22 (by decide))
      refine slv_aload_n eX12_readLine_32 rfl ?_
      refine slv_iconst (v := nI 1) eX12_readLine_33 (by decide) ?_
      refine slv_rV (As := [_]) eX12_readLine_34 lX12_216 rfl rfl rf_68 rfl (c_X12_flaw h34 1) (by decide) (Nat.le_of_ble_eq_true rfl) ?_
      refine slv_vret eX12_readLine_37 rfl ?_
      refine ⟨rfl, _, _, _, _, _, rfl, rst_1 f ln (R, g), rfk_r (rfr_fl v a 1), Or.inr ?_⟩
      rw [show stp f ln (R, g) = (gr_fl 1 R, g) from stp_fl he hta]
      exact rBAD_fl ht (by omega) (by omega)
end RDK
