/-! the reference reads a line -/
/-- the kind that was read -/
def rkd (C : gr_T × sg_T) (v : Nat → Int32) : Prop := v 20 = cond (gr_hd C.1) (nI (sg_kind C.2)) (-1)
section RRL
variable {v : Nat → Int32} {w : Int64} {a : Nat → Nat → Int32} {nm : Nat → Int64} {M : sl_M} {f : Nat → Int32} {ln : Nat} {R : gr_T} {g : sg_T} {Q : Option Value → sl_M → Prop}
set_option maxRecDepth 100000 in
theorem rm_rule59 (hS : st_all) (h27 : a 27 = f) (hl : ln ≤ 900) (hC : rOK ln 2 (R, g) v w a nm) (hQ : rRq f ln M (R, g) v a Q) {g1 : sg_T} {k : Nat} {v1 : Nat → Int32} {nm1 : Nat → Int64} (hv1 : ∀ j, j ∉ [18, 19] → v1 j = v j) (ht1 : rm_t ln R v1 w) (hg1 : rm_g g1 v1 a nm1) (hkd : sg_kind g1 = sg_kind g) (htk : gp_take R g = (gr_to 3 R, gp_hl g1 k)) (hgs : gsp 3 (gp_hl g1 k)) {l2 l3 : Option Value} : sl_V YX12_readRule none 9 0 0 Q 59 [some (.ref 68), some (.int (nI k)), l2, l3] [] (rf_S v1 w a nm1 M) := by
  obtain ⟨ht, hg, hk, hs, he, hst⟩ := hC
  simp only at ht hg hk hs he hst
  have hko := gpo_k_take hk
  rw [htk] at hko
  have hst' : stp f ln (R, g) = (gr_tok f ln (gr_to 3 R), gp_hl g1 k) := stp_go he htk he
  have hN := c_X12_next (v := v1) (w := w) (nm := nm1) (M := M) (R := gr_to 3 R) h27 hl ht1.2.1 ht1.1 ht1.2.2.1 hk.1
  have hkk := gr_tok_k (R := gr_to 3 R) f hk.1
  have hNd := fun (v2 : Nat → Int32) (w2 : Int64) (h : rOK ln 3 (gr_tok f ln (gr_to 3 R), gp_hl g1 k) v2 w2 a nm1) => rm_needs (M := M) hS h27 hl h
  refine slv_aload_n eX12_readRule_59 rfl ?_
  refine slv_callV (As := []) eX12_readRule_60 lX12_220 rfl rfl rf_68 rfl hN (by decide) (Nat.le_of_ble_eq_true rfl) (Nat.zero_add _).symm (Nat.zero_add _).symm (Or.inl rfl) ?_
  rintro _ _ ⟨rfl, v2, w2, rfl, hv2, ht2⟩
  have h3 : rOK ln 3 (gr_tok f ln (gr_to 3 R), gp_hl g1 k) v2 w2 a nm1 := rOK_h hk.1 he ht2 (rm_g_v (rm_g_hl hg1) (hv2 _ (by decide)) (hv2 _ (by decide)) (hv2 _ (by decide))) hko hgs
  refine slv_aload_n eX12_readRule_63 rfl ?_
  refine slv_ldcS (tx := "is") 6 eX12_readRule_64 (by decide +kernel) ?_
  refine slv_callV (As := [_]) eX12_readRule_66 lX12_270 rfl rfl rf_68 rfl (hNd v2 w2 h3) (by decide) (Nat.le_of_ble_eq_true rfl) (Nat.zero_add _).symm (Nat.zero_add _).symm (Or.inl rfl) ?_
  rintro _ _ ⟨rfl, v3, w3, rfl, hv3, hO⟩
  have hf1 : rfr v a v2 a := ⟨fun j hj => (hv2 j (fun q => hj (by revert q; simp; omega))).trans (hv1 j (fun q => hj (by revert q; simp; omega))), fun _ _ => rfl⟩
  have hf2 : rfr v a v3 a := rfr_t hf1 ⟨fun j hj => hv3 j (fun q => hj (by revert q; simp; omega)), fun _ _ => rfl⟩
  have hr2 : rst f ln (R, g) (stp f ln (gr_tok f ln (gr_to 3 R), gp_hl g1 k)) := rst_t (hst' ▸ rst_1 f ln (R, g)) (rst_1 f ln _)
  rcases hO with ⟨e, hO⟩ | hB
  · rw [e] at hO hr2
    have hkk2 := gr_tok_k (R := gr_to 4 (gr_tok f ln (gr_to 3 R))) f (show gr_a (gr_tok f ln (gr_to 3 R)) ≤ ln from h3.2.2.1.1)
    have h1 := rm_rule69 (M := M) (l2 := l2) (l3 := l3) hS h27 hl hO (rRq_t hQ hr2 hf2 (hkk2.1.2.1.trans hkk.1.2.1) hkd)
    rw [show sg_heads (gp_hl g1 k) (sg_rules (gp_hl g1 k)) = k from sl_u_eq] at h1
    exact h1
  · exact rb69 hS hB.2.1 hB.2.2.1 hB.2.2.2.1 hB.2.2.2.2.2 (hQ _ _ _ _ _ hr2 hf2 (Or.inr hB))
theorem rm_g_gmO (hg : rm_g g v a nm) {y : Int32} (hw : wrd w y) : rm_g (gm_n g y) (sl_u v 18 (nI (sg_names g + 1))) a (sl_u nm (sg_names g) w) := by
  obtain ⟨g1, g2, g3, g4, g5, g6, g7⟩ := hg
  refine ⟨g1, rfl, g3, g4, g5, g6, fun i h => ?_⟩
  have h' : i < sg_names g + 1 := h
  show wrd (sl_u nm (sg_names g) w i) (sl_u (sg_words g) (sg_names g) y i)
  by_cases e : i = sg_names g
  · rw [e, sl_u_eq, sl_u_eq]; exact hw
  · rw [sl_u_ne e, sl_u_ne e]; exact g7 i (by omega)
set_option maxRecDepth 100000 in
theorem rm_rule31 (hS : st_all) (h27 : a 27 = f) (hl : ln ≤ 900) (hC : rOK ln 2 (R, g) v w a nm) (hQ : rRq f ln M (R, g) v a Q) {l1 l2 l3 : Option Value} : sl_V YX12_readRule none 9 0 0 Q 31 [some (.ref 68), l1, l2, l3] [] (rf_S v w a nm M) := by
  have hC' := hC
  obtain ⟨ht, hg, hk, hs, he, hst⟩ := hC
  simp only at ht hg hk hs he hst
  have htk := hk.2.1
  have hok := hk.2.2.2.2.1
  have h34 := ht.1
  have hW := rm_isName (a := a) (nm := nm) (M := M) hS ht htk
  have hta := take_2 (g := g) hst
  unfold gp_head at hta
  cases hnw : gr_nw R with
  | false =>
    rw [hnw] at hW hta
    rw [cond_false] at hta
    have hq := hQ _ w a nm _ (rst_1 f ln (R, g)) (rfr_fl v a 1) (by rw [show stp f ln (R, g) = (gr_fl 1 R, g) from stp_fl he hta]; exact Or.inr (rBAD_fl ht (by omega) (by omega)))
    refine slv_aload_n eX12_readRule_31 rfl ?_
    refine slv_rV (As := []) eX12_readRule_32 lX12_264 rfl rfl rf_68 rfl hW (by decide) (Nat.le_of_ble_eq_true rfl) ?_
    refine slv_if_neB eX12_readRule_35 (fun h35 => absurd h35 (by decide)) (fun h35 => ?_)
    refine slv_aload_n eX12_readRule_38 rfl ?_
    refine slv_iconst (v := nI 1) eX12_readRule_39 (by decide) ?_
    refine slv_rV (As := [_]) eX12_readRule_40 lX12_216 rfl rfl rf_68 rfl (c_X12_flaw h34 1) (by decide) (Nat.le_of_ble_eq_true rfl) ?_
    exact rb43 hS (k := 1) (by omega) (by omega) rfl rfl hq
  | true =>
    obtain ⟨k1, k7, k8⟩ := gr_nw_t hnw
    rw [hnw] at hW hta
    rw [cond_true] at hta
    have hw := ht.2.2.2.2.2.1 k1
    have hNH := rm_nameHere (M := M) ht k1 hg hok.2.2.1
    obtain ⟨n1, n2, n3, n4, n5, n6, n7, n8⟩ := gm_nm (R := R) (g := g)
    have hgs : ∀ k, gm_o R g = some k → gsp 3 (gp_hl (gm_s R g).2 k) := fun k q => gsp_hl hs hok q
    unfold gm_o at hta hgs
    unfold gm_s at hta hgs
    cases hq : gm_k g (gr_wd R) with
    | some k =>
      rw [hq] at hta hgs hNH
      simp only at hta hgs hNH
      refine slv_aload_n eX12_readRule_31 rfl ?_
      refine slv_rV (As := []) eX12_readRule_32 lX12_264 rfl rfl rf_68 rfl hW (by decide) (Nat.le_of_ble_eq_true rfl) ?_
      refine slv_if_neB eX12_readRule_35 (fun h35 => ?_) (fun h35 => absurd h35 (by decide))
      refine slv_aload_n eX12_readRule_43 rfl ?_
      refine slr_gi eX12_readRule_44 fX12_165 rfl (by repeat (first | exact sl_u_eq | assumption | apply rf_ne (by decide) | exact rfl)) ?_
      refine slv_if_leN eX12_readRule_47 (by omega) (fun h47 => ?_) (fun h47 => absurd h47 (by omega))
      refine slv_aload_n eX12_readRule_54 rfl ?_
      refine slv_rV (As := []) eX12_readRule_55 lX12_267 rfl rfl rf_68 rfl hNH (by decide) (Nat.le_of_ble_eq_true rfl) ?_
      refine slv_istore_n (i := 1) (lv' := [_, _, _, _]) eX12_readRule_58 rfl (by decide) rfl ?_
      exact rm_rule59 hS h27 hl hC' hQ (fun _ _ => rfl) ht hg rfl hta (hgs k rfl)
    | none =>
      rw [hq] at hta hgs hNH
      simp only at hta hgs hNH
      by_cases h6 : sg_names g < 6
      · rw [if_pos h6, if_pos h6] at hta
        rw [if_pos h6, if_pos h6] at hNH
        have hgs' := hgs (sg_names g) (by rw [if_pos h6])
        rw [if_pos h6] at hgs'
        simp only at hta
        have hv : ∀ k, k ∉ [18, 19] → sl_u v 18 (nI (sg_names g + 1)) k = v k := fun k hk' => sl_u_ne (fun e => hk' (by rw [e]; decide))
        have hgg := rm_g_gmO hg hw
        refine slv_aload_n eX12_readRule_31 rfl ?_
        refine slv_rV (As := []) eX12_readRule_32 lX12_264 rfl rfl rf_68 rfl hW (by decide) (Nat.le_of_ble_eq_true rfl) ?_
        refine slv_if_neB eX12_readRule_35 (fun h35 => ?_) (fun h35 => absurd h35 (by decide))
        refine slv_aload_n eX12_readRule_43 rfl ?_
        refine slr_gi eX12_readRule_44 fX12_165 rfl (by repeat (first | exact sl_u_eq | assumption | apply rf_ne (by decide) | exact rfl)) ?_
        refine slv_if_leN eX12_readRule_47 (by omega) (fun h47 => ?_) (fun h47 => absurd h47 (by omega))
        refine slv_aload_n eX12_readRule_54 rfl ?_
        refine slv_rV (As := []) eX12_readRule_55 lX12_267 rfl rfl rf_68 rfl hNH (by decide) (Nat.le_of_ble_eq_true rfl) ?_
        refine slv_istore_n (i := 1) (lv' := [_, _, _, _]) eX12_readRule_58 rfl (by decide) rfl ?_
        exact rm_rule59 hS h27 hl hC' hQ hv (rm_t_v ht hv) hgg rfl hta hgs'
      · rw [if_neg h6, if_neg h6] at hta
        rw [if_neg h6, if_neg h6] at hNH
        simp only at hta
        have hq' := hQ _ w a nm _ (rst_1 f ln (R, g)) (rfr_fl v a 4) (by rw [show stp f ln (R, g) = (gr_fl 4 R, g) from stp_fl he hta]; exact Or.inr (rBAD_fl ht (by omega) (by omega)))
        refine slv_aload_n eX12_readRule_31 rfl ?_
        refine slv_rV (As := []) eX12_readRule_32 lX12_264 rfl rfl rf_68 rfl hW (by decide) (Nat.le_of_ble_eq_true rfl) ?_
        refine slv_if_neB eX12_readRule_35 (fun h35 => ?_) (fun h35 => absurd h35 (by decide))
        refine slv_aload_n eX12_readRule_43 rfl ?_
        refine slr_gi eX12_readRule_44 fX12_165 rfl (by repeat (first | exact sl_u_eq | assumption | apply rf_ne (by decide) | exact rfl)) ?_
        refine slv_if_leN eX12_readRule_47 (by omega) (fun h47 => ?_) (fun h47 => absurd h47 (by omega))
        refine slv_aload_n eX12_readRule_54 rfl ?_
        refine slv_rV (As := []) eX12_readRule_55 lX12_267 rfl rfl rf_68 rfl hNH (by decide) (Nat.le_of_ble_eq_true rfl) ?_
        refine slv_istore_n (i := 1) (lv' := [_, _, _, _]) eX12_readRule_58 rfl (by decide) rfl ?_
        exact rb59 hS (k := 4) (by omega) (by omega) rfl rfl hq'
set_option maxRecDepth 100000 in
theorem rm_readRule (hS : st_all) (h27 : a 27 = f) (hl : ln ≤ 900) (hC : rOK ln 0 (R, g) v w a nm) (hkd : rkd (R, g) v) (h1 : gr_is R 1 = false) (h2 : gr_is R 2 = true) (hQ : rRq f ln M (R, g) v a Q) : sl_T YX12_readRule 9 0 0 Q [.ref 68] (rf_S v w a nm M) := by
  obtain ⟨ht, hg, hk, hs, he, hst⟩ := hC
  simp only at ht hg hk hs he hst
  have htk := hk.2.1
  have hok := hk.2.2.2.2.1
  have hr12 : sg_rules g ≤ 12 := hok.2.1
  have hk2 : sg_kind g ≤ 2 := hok.1
  have h34 := ht.1
  have g1 := hg.1
  have hta := take_0 (g := g) hst
  unfold gp_line at hta
  rw [h1, h2, cond_false, cond_true] at hta
  unfold rkd at hkd
  simp only at hkd
  refine sl_T.of_V (lv := [_, _, _, _]) (by decide) rfl (Nat.le_of_ble_eq_true rfl) ?_
  by_cases hr : sg_rules g < 12
  · rw [if_pos hr] at hta
    cases hd : gr_hd R with
    | true =>
      rw [hd] at hta hkd
      rw [cond_true] at hta hkd
      have hko := gpo_k_take hk
      rw [hta] at hko
      have hst' : stp f ln (R, g) = (gr_tok f ln (gr_to 2 R), g) := stp_go he hta he
      have hN := c_X12_next (v := v) (w := w) (nm := nm) (M := M) (R := gr_to 2 R) h27 hl ht.2.1 h34 ht.2.2.1 hk.1
      have hkk := gr_tok_k (R := gr_to 2 R) f hk.1
      refine slv_aload_n eX12_readRule_0 rfl ?_
      refine slr_gi eX12_readRule_1 fX12_239 rfl (by repeat (first | exact sl_u_eq | assumption | apply rf_ne (by decide) | exact rfl)) ?_
      refine slv_bipush (v := nI 12) eX12_readRule_4 (by decide) ?_
      refine slv_icmp_neN eX12_readRule_6 (by omega) (by omega) (fun h6 => ?_) (fun h6 => absurd h6 (by omega))
      refine slv_aload_n eX12_readRule_14 rfl ?_
      refine slr_gi eX12_readRule_15 fX12_242 rfl (by repeat (first | exact sl_u_eq | assumption | apply rf_ne (by decide) | exact rfl)) ?_
      refine slv_iconst (v := (-1)) eX12_readRule_18 (by decide) ?_
      refine slv_icmp_ne eX12_readRule_19 (fun h19 => ?_) (fun h19 => absurd h19 (nI_neg1 (by omega)))
      refine slv_aload_n eX12_readRule_27 rfl ?_
      refine slv_callV (As := []) eX12_readRule_28 lX12_220 rfl rfl rf_68 rfl hN (by decide) (Nat.le_of_ble_eq_true rfl) (Nat.zero_add _).symm (Nat.zero_add _).symm (Or.inl rfl) ?_
      rintro _ _ ⟨rfl, v1, w1, rfl, hv1, ht1⟩
      exact rm_rule31 hS h27 hl (rOK_h hk.1 he ht1 (rm_g_v hg (hv1 _ (by decide)) (hv1 _ (by decide)) (hv1 _ (by decide))) hko (gsp_lo hs (by omega))) (rRq_t hQ (hst' ▸ rst_1 f ln (R, g)) (rfr_nx a hv1) hkk.1.2.1 rfl)
    | false =>
      rw [hd] at hta hkd
      rw [cond_false] at hta hkd
      have hq := hQ _ w a nm _ (rst_1 f ln (R, g)) (rfr_fl v a 5) (by rw [show stp f ln (R, g) = (gr_fl 5 R, g) from stp_fl he hta]; exact Or.inr (rBAD_fl ht (by omega) (by omega)))
      refine slv_aload_n eX12_readRule_0 rfl ?_
      refine slr_gi eX12_readRule_1 fX12_239 rfl (by repeat (first | exact sl_u_eq | assumption | apply rf_ne (by decide) | exact rfl)) ?_
      refine slv_bipush (v := nI 12) eX12_readRule_4 (by decide) ?_
      refine slv_icmp_neN eX12_readRule_6 (by omega) (by omega) (fun h6 => ?_) (fun h6 => absurd h6 (by omega))
      refine slv_aload_n eX12_readRule_14 rfl ?_
      refine slr_gi eX12_readRule_15 fX12_242 rfl (by repeat (first | exact sl_u_eq | assumption | apply rf_ne (by decide) | exact rfl)) ?_
      refine slv_iconst (v := (-1)) eX12_readRule_18 (by decide) ?_
      refine slv_icmp_ne eX12_readRule_19 (fun h19 => absurd rfl h19) (fun h19 => ?_)
      refine slv_aload_n eX12_readRule_22 rfl ?_
      refine slv_iconst (v := nI 5) eX12_readRule_23 (by decide) ?_
      refine slv_rV (As := [_]) eX12_readRule_24 lX12_216 rfl rfl rf_68 rfl (c_X12_flaw h34 5) (by decide) (Nat.le_of_ble_eq_true rfl) ?_
      exact rb27 hS (k := 5) (by omega) (by omega) rfl rfl hq
  · rw [if_neg hr] at hta
    have hq := hQ _ w a nm _ (rst_1 f ln (R, g)) (rfr_fl v a 4) (by rw [show stp f ln (R, g) = (gr_fl 4 R, g) from stp_fl he hta]; exact Or.inr (rBAD_fl ht (by omega) (by omega)))
    cases hd : gr_hd R with
    | true =>
      rw [hd] at hkd
      rw [cond_true] at hkd
      refine slv_aload_n eX12_readRule_0 rfl ?_
      refine slr_gi eX12_readRule_1 fX12_239 rfl (by repeat (first | exact sl_u_eq | assumption | apply rf_ne (by decide) | exact rfl)) ?_
      refine slv_bipush (v := nI 12) eX12_readRule_4 (by decide) ?_
      refine slv_icmp_neN eX12_readRule_6 (by omega) (by omega) (fun h6 => absurd h6 (by omega)) (fun h6 => ?_)
      refine slv_aload_n eX12_readRule_9 rfl ?_
      refine slv_iconst (v := nI 4) eX12_readRule_10 (by decide) ?_
      refine slv_rV (As := [_]) eX12_readRule_11 lX12_216 rfl rfl rf_68 rfl (c_X12_flaw h34 4) (by decide) (Nat.le_of_ble_eq_true rfl) ?_
      refine slv_aload_n eX12_readRule_14 rfl ?_
      refine slr_gi eX12_readRule_15 fX12_242 rfl (by repeat (first | exact sl_u_eq | assumption | apply rf_ne (by decide) | exact rfl)) ?_
      refine slv_iconst (v := (-1)) eX12_readRule_18 (by decide) ?_
      refine slv_icmp_ne eX12_readRule_19 (fun h19 => ?_) (fun h19 => absurd h19 (nI_neg1 (by omega)))
      exact rb27 hS (k := 4) (by omega) (by omega) rfl rfl hq
    | false =>
      rw [hd] at hkd
      rw [cond_false] at hkd
      have hfB := c_X12_flawB (v := sl_u (sl_u v 34 (nI 4)) 31 (nI 0)) (w := w) (a := a) (nm := nm) (M := M) (k := 4) (by omega) (by omega) rfl rfl 5
      refine slv_aload_n eX12_readRule_0 rfl ?_
      refine slr_gi eX12_readRule_1 fX12_239 rfl (by repeat (first | exact sl_u_eq | assumption | apply rf_ne (by decide) | exact rfl)) ?_
      refine slv_bipush (v := nI 12) eX12_readRule_4 (by decide) ?_
      refine slv_icmp_neN eX12_readRule_6 (by omega) (by omega) (fun h6 => absurd h6 (by omega)) (fun h6 => ?_)
      refine slv_aload_n eX12_readRule_9 rfl ?_
      refine slv_iconst (v := nI 4) eX12_readRule_10 (by decide) ?_
      refine slv_rV (As := [_]) eX12_readRule_11 lX12_216 rfl rfl rf_68 rfl (c_X12_flaw h34 4) (by decide) (Nat.le_of_ble_eq_true rfl) ?_
      refine slv_aload_n eX12_readRule_14 rfl ?_
      refine slr_gi eX12_readRule_15 fX12_242 rfl (by repeat (first | exact sl_u_eq | assumption | apply rf_ne (by decide) | exact rfl)) ?_
      refine slv_iconst (v := (-1)) eX12_readRule_18 (by decide) ?_
      refine slv_icmp_ne eX12_readRule_19 (fun h19 => absurd rfl h19) (fun h19 => ?_)
      refine slv_aload_n eX12_readRule_22 rfl ?_
      refine slv_iconst (v := nI 5) eX12_readRule_23 (by decide) ?_
      refine slv_rV (As := [_]) eX12_readRule_24 lX12_216 rfl rfl rf_68 rfl hfB (by decide) (Nat.le_of_ble_eq_true rfl) ?_
      exact rb27 hS (k := 4) (by omega) (by omega) rfl rfl hq
end RRL
