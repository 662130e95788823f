/-! the reference reduces -/
theorem reF_r {v v1 v2 : Nat → Int32} {a a1 a2 : Nat → Nat → Int32} (h : rhF v a v1 a1) (h2 : reF v1 a1 v2 a2) : reF v a v2 a2 := by
  refine ⟨fun k hk => (h2.1 k hk).trans (h.1 k (fun q => hk ?_)), fun k hk => (h2.2 k hk).trans (h.2 k (fun q => hk ?_))⟩
  · simp only [List.mem_cons, List.mem_nil_iff, or_false] at q ⊢
    omega
  · simp only [List.mem_cons, List.mem_nil_iff, or_false] at q ⊢
    omega
theorem rhF_l {v v1 : Nat → Int32} {a a1 : Nat → Nat → Int32} (h : rhF v a v1 a1) {Lv La : List Nat} (h1 : ∀ k, k ∈ Lv → k ∉ [77, 78]) (h2 : ∀ k, k ∈ La → k ∉ [67, 68, 76, 69]) : (∀ k, k ∈ Lv → v1 k = v k) ∧ ∀ k, k ∈ La → a1 k = a k := ⟨fun k hk => h.1 k (h1 k hk), fun k hk => h.2 k (h2 k hk)⟩
section RRF2
variable {v : Nat → Int32} {w : Int64} {a : Nat → Nat → Int32} {nm : Nat → Int64} {M : sl_M} {Q : Option Value → sl_M → Prop} {E : rx_T} {S : rd_T} {fr : Nat} {b1 : Int32}
theorem re_58 (hE : rdE E) (hI : rdI E S) (hG : rf_G (rx_g E) v a) (hf : v 62 = nI 0) (hfa : rd_fa S = 0) (hc60 : nd_c (rd_nd S) < 60) (hR : rdR E S v a) (h1 : 1 ≤ fr) (h2 : fr ≤ rd_tp S) (hQ : ∀ v' a', rdR E (rd_red2 E S fr (rd_gat S fr)) v' a' → v' 62 = nI (rd_fa (rd_red2 E S fr (rd_gat S fr))) → reF v a v' a' → Q none (rf_S v' w a' nm M)) {v1 : Nat → Int32} {a1 : Nat → Nat → Int32} {vm : Nat} (hF : rhF v a v1 a1) (hH : rH (rd_nd S) (hn_tv (rd_beh S (fr - 1)) (none, none, 0, (rd_hn S).2.2.2)) vm v1 a1) (hvm : vm ≤ h100 (hn_tv (rd_beh S (fr - 1)) (none, none, 0, (rd_hn S).2.2.2))) (hv1 : vm ≤ 1) : sl_V YX12_reduces none 6 0 0 Q 58 [some (.ref 68), some (.int b1), some (.int (nI fr)), some (.int (nI fr))] [] (rf_S v1 w a1 nm M) := by
  have hrk := hI.1
  have htp : rd_tp S ≤ 15 := hrk.2.1
  have hk : rsk S v1 a1 := rsk_F ⟨hR.1.1, hR.2.1⟩ hF
  have hn0 : hn_vn (rd_beh S (fr - 1)) 0 ≤ 1 := hn_vn_2 (by omega)
  refine rg_L2 htp hrk.2.2.2.2.1 h1 (rd_tp S + 1 - fr) fr _ vm v1 a1 (by omega) (Nat.le_refl _) hH (by show hn_vn (rd_beh S (fr - 1)) 0 ≤ _; omega) (by omega) hvm hk Q (fun v' a' vm' z q1 q2 q3 => ?_)
  have hF2 := rhF_t hF q3
  obtain ⟨e1, e2⟩ := rhF_l (Lv := [14, 15, 16, 22, 23]) (La := [3, 4, 5, 6, 7]) hF2 (by decide) (by decide)
  obtain ⟨e3, e4⟩ := rhF_l (Lv := rdV) (La := rdA) hF2 (by decide) (by decide)
  exact re_102 hE hI (rf_G_same hG e1 e2) ((hF2.1 _ (by decide)).trans hf) hfa hc60 (rdR_F hR e3 e4) h1 h2 q1 q2 (fun v2 a2 z1 z2 z3 => hQ v2 a2 z1 z2 (reF_r hF2 z3))
set_option maxRecDepth 100000 in
theorem re_39 {l3 : Option Value} (hE : rdE E) (hI : rdI E S) (hG : rf_G (rx_g E) v a) (hf : v 62 = nI 0) (hfa : rd_fa S = 0) (hc60 : nd_c (rd_nd S) < 60) (hR : rdR E S v a) (h1 : 1 ≤ fr) (h2 : fr ≤ rd_tp S) (hQ : ∀ v' a', rdR E (rd_red2 E S fr (rd_gat S fr)) v' a' → v' 62 = nI (rd_fa (rd_red2 E S fr (rd_gat S fr))) → reF v a v' a' → Q none (rf_S v' w a' nm M)) : sl_V YX12_reduces none 6 0 0 Q 39 [some (.ref 68), some (.int b1), some (.int (nI fr)), l3] [] (rf_S v w a nm M) := by
  have htp : rd_tp S ≤ 15 := hI.1.2.1
  have hF1 : rhF v a (sl_u (sl_u v 77 (nI 0)) 78 (nI 0)) a := ⟨fun k hk => by rw [sl_u_ne (fun e => hk (by rw [e]; decide)), sl_u_ne (fun e => hk (by rw [e]; decide))], fun _ _ => rfl⟩
  have hH1 : rH (rd_nd S) (none, none, 0, (rd_hn S).2.2.2) 0 (sl_u (sl_u v 77 (nI 0)) 78 (nI 0)) a := ⟨⟨rfl, rfl⟩, fun j hj => absurd hj (Nat.not_lt_zero j), ⟨⟨fun _ => rfl, fun _ => rfl⟩, ⟨fun _ => rfl, fun _ => Nat.zero_le 1⟩⟩, fun k q => (by cases q), fun k q => (by cases q)⟩
  obtain ⟨d1, d2, d3⟩ := hR.2.1 (fr - 1) (by omega)
  have fin := fun {v1 : Nat → Int32} {a1 : Nat → Nat → Int32} {vm : Nat} => re_58 (b1 := b1) (w := w) (nm := nm) (M := M) (Q := Q) hE hI hG hf hfa hc60 hR h1 h2 hQ (v1 := v1) (a1 := a1) (vm := vm)
  cases hb : rd_beh S (fr - 1) with
  | none =>
    rw [hb] at d2 fin
    have hTV := c_X12_takesValue_n (w := w) (nm := nm) (M := M) (i := fr - 1) (v := (sl_u (sl_u v 77 (nI 0)) 78 (nI 0))) (by omega) d2
    refine slv_aload_n eX12_reduces_39 rfl ?_
    refine slv_iconst (v := nI 0) eX12_reduces_40 (by decide) ?_
    refine slr_pi eX12_reduces_41 fX12_466 (Nat.le_of_ble_eq_true rfl) rf_s77 ?_
    refine slv_aload_n eX12_reduces_44 rfl ?_
    refine slv_iconst (v := nI 0) eX12_reduces_45 (by decide) ?_
    refine slr_pi eX12_reduces_46 fX12_469 (Nat.le_of_ble_eq_true rfl) rf_s78 ?_
    refine slv_aload_n eX12_reduces_49 rfl ?_
    refine slv_iload_n eX12_reduces_50 rfl ?_
    refine slv_iconst (v := nI 1) eX12_reduces_51 (by decide) ?_
    refine slv_isubN eX12_reduces_52 (by omega) ?_
    refine slv_rV (As := [_]) eX12_reduces_53 lX12_472 rfl rfl rf_68 rfl hTV (by decide) (Nat.le_of_ble_eq_true rfl) ?_
    refine slv_iload_n eX12_reduces_56 rfl ?_
    refine slv_istore_n (i := 3) (lv' := [_, _, _, _]) eX12_reduces_57 rfl (by decide) rfl ?_
    exact fin hF1 hH1 (Nat.zero_le _) (Nat.zero_le _)
  | some kk =>
    rw [hb] at d2 d3 fin
    have hTV := c_X12_takesValue (w := w) (nm := nm) (M := M) (i := fr - 1) (o := some kk) (by omega) d2 d3 hH1 (by show 0 < 31; omega) (by omega)
    have hc2 : h100 (hn_tv (some kk) (none, none, 0, (rd_hn S).2.2.2)) = 1 := h100_tv (by show 0 < 31; omega)
    refine slv_aload_n eX12_reduces_39 rfl ?_
    refine slv_iconst (v := nI 0) eX12_reduces_40 (by decide) ?_
    refine slr_pi eX12_reduces_41 fX12_466 (Nat.le_of_ble_eq_true rfl) rf_s77 ?_
    refine slv_aload_n eX12_reduces_44 rfl ?_
    refine slv_iconst (v := nI 0) eX12_reduces_45 (by decide) ?_
    refine slr_pi eX12_reduces_46 fX12_469 (Nat.le_of_ble_eq_true rfl) rf_s78 ?_
    refine slv_aload_n eX12_reduces_49 rfl ?_
    refine slv_iload_n eX12_reduces_50 rfl ?_
    refine slv_iconst (v := nI 1) eX12_reduces_51 (by decide) ?_
    refine slv_isubN eX12_reduces_52 (by omega) ?_
    refine slv_callV (As := [_]) eX12_reduces_53 lX12_472 rfl rfl rf_68 rfl hTV (by decide) (Nat.le_of_ble_eq_true rfl) (Nat.zero_add _).symm (Nat.zero_add _).symm (Or.inl rfl) ?_
    rintro _ _ ⟨rfl, v2, a2, vm2, rfl, hH2, hF2, hv2⟩
    refine slv_iload_n eX12_reduces_56 rfl ?_
    refine slv_istore_n (i := 3) (lv' := [_, _, _, _]) eX12_reduces_57 rfl (by decide) rfl ?_
    exact fin (rhF_t hF1 hF2) hH2 (by rw [hc2]; omega) (by omega)
set_option maxRecDepth 100000 in
theorem c_X12_reduces {s : Nat → Int32} {rn : Nat} {rk kn nu : Nat → Nat} {how : Nat} (hE : rdE E) (hI : rdI E S) (hG : rf_G (rx_g E) v a) (hs : a 38 = s) (hK : rf_K rn rk kn nu v a) (h0 : how = 1 → rn = 0) (hh : how < 2) (hEo : rx_o E = ro_o s (sg_terms (rx_g E)) nu kn how) (hf : v 62 = nI 0) (hfa : rd_fa S = 0) (hR : rdR E S v a) (htp1 : 1 ≤ rd_tp S) :
    sl_T YX12_reduces 6 0 0 (fun o M' => o = none ∧ ∃ v' a', M' = rf_S v' w a' nm M ∧ rdR E (rd_red E S) v' a' ∧ v' 62 = nI (rd_fa (rd_red E S)) ∧ reF v a v' a') [.ref 68, .int (sl_bi (decide (how = 1)))] (rf_S v w a nm M) := by
  have htp : rd_tp S ≤ 15 := hI.1.2.1
  have hnx : rd_nx S ≤ rx_tc E := hI.1.1
  have htc := hE.2.2.1
  have hcn := hI.2.1
  have hok := hE.1
  have he : sg_terms (rx_g E) ≤ 11 := hok.2.2.2.1
  have hst : ∀ i, i < 16 → rd_stk S i < 12 := hI.1.2.2.2.2.1
  have k1 := hR.1.1
  have hhd := rd_hd_le (rx_o E) (rd_stk S) (rd_tp S)
  have hh1 := hhd.2 htp1
  have hred : rd_red E S = rd_red2 E S (rd_hd (rx_o E) (rd_stk S) (rd_tp S)) (rd_gat S (rd_hd (rx_o E) (rd_stk S) (rd_tp S))) := by
    unfold rd_red
    rw [if_neg (by omega)]
  have loop : ∀ (n : Nat) (z : Option Value), 1 ≤ n → n ≤ rd_tp S → ∀ Q : Option Value → sl_M → Prop, (∀ z, sl_V YX12_reduces none 6 0 0 Q 39 [some (.ref 68), some (.int (sl_bi (decide (how = 1)))), some (.int (nI (rd_hd (rx_o E) (rd_stk S) n))), z] [] (rf_S v w a nm M)) → sl_V YX12_reduces none 6 0 0 Q 5 [some (.ref 68), some (.int (sl_bi (decide (how = 1)))), some (.int (nI n)), z] [] (rf_S v w a nm M) := by
    intro n
    induction n with
    | zero => intro z h1; omega
    | succ n ih =>
      intro z _ hn Q hQ
      have hgo : rd_hd (rx_o E) (rd_stk S) (n + 1) = cond (decide (1 < n + 1) && decide (rx_o E (rd_stk S n) (rd_stk S (n + 1)) = nI 2)) (rd_hd (rx_o E) (rd_stk S) n) (n + 1) := rfl
      by_cases hn0 : n = 0
      · subst hn0
        rw [hgo, decide_eq_false (show ¬ 1 < 0 + 1 by omega), Bool.false_and, cond_false] at hQ
        refine slv_iload_n eX12_reduces_5 rfl ?_
        refine slv_iconst (v := nI 1) eX12_reduces_6 (by decide) ?_
        refine slv_icmp_leN eX12_reduces_7 (by omega) (by omega) (fun h7 => ?_) (fun h7 => absurd h7 (by omega))
        exact hQ _
      · rw [hgo, decide_eq_true (show 1 < n + 1 by omega), Bool.true_and] at hQ
        obtain ⟨c1, -, -⟩ := hR.2.1 n (by omega)
        obtain ⟨d1, -, -⟩ := hR.2.1 (n + 1) (by omega)
        have hne := (hI.2.2.2.2.1 (n + 1) (by omega) (by omega)).1
        have hRl := c_X12_relates_ (w := w) (nm := nm) (M := M) he hG.2.2.1 hs hK h0 hh (hst n (by omega)) (hst (n + 1) (by omega)) (fun q => by omega)
        rw [← hEo] at hRl
        by_cases h2 : rx_o E (rd_stk S n) (rd_stk S (n + 1)) = nI 2
        · rw [decide_eq_true h2, cond_true] at hQ
          refine slv_iload_n eX12_reduces_5 rfl ?_
          refine slv_iconst (v := nI 1) eX12_reduces_6 (by decide) ?_
          refine slv_icmp_leN eX12_reduces_7 (by omega) (by omega) (fun h7 => absurd h7 (by omega)) (fun h7 => ?_)
          refine slv_aload_n eX12_reduces_10 rfl ?_
          refine slv_aload_n eX12_reduces_11 rfl ?_
          refine slr_ga (p := 96) eX12_reduces_12 fX12_98 rfl ?_
          refine slv_iload_n eX12_reduces_15 rfl ?_
          refine slv_iconst (v := nI 1) eX12_reduces_16 (by decide) ?_
          refine slv_isubN eX12_reduces_17 (by omega) ?_
          refine slr_ialdX (k := 54) (p := 96) (len := 16) eX12_reduces_18 rfl (by repeat (first | exact sl_u_eq | assumption | apply rf_ne (by decide) | exact rfl)) (by omega) (by decide) c1 ?_
          refine slv_aload_n eX12_reduces_19 rfl ?_
          refine slr_ga (p := 96) eX12_reduces_20 fX12_98 rfl ?_
          refine slv_iload_n eX12_reduces_23 rfl ?_
          refine slr_ialdX (k := 54) (p := 96) (len := 16) eX12_reduces_24 rfl (by repeat (first | exact sl_u_eq | assumption | apply rf_ne (by decide) | exact rfl)) (by omega) (by decide) d1 ?_
          refine slv_iload_n eX12_reduces_25 rfl ?_
          refine slv_rV (As := [_, _, _]) eX12_reduces_26 lX12_456 rfl rfl rf_68 rfl hRl (by decide) (Nat.le_of_ble_eq_true rfl) ?_
          refine slv_iconst (v := nI 2) eX12_reduces_29 (by decide) ?_
          refine slv_icmp_ne eX12_reduces_30 (fun h30 => absurd h2 h30) (fun h30 => ?_)
          refine slv_idecN (lv' := [_, _, _, _]) eX12_reduces_33 rfl (by decide) (by omega) rfl ?_
          refine slv_goto eX12_reduces_36 ?_
          exact ih z (by omega) (by omega) Q hQ
        · rw [decide_eq_false h2, cond_false] at hQ
          refine slv_iload_n eX12_reduces_5 rfl ?_
          refine slv_iconst (v := nI 1) eX12_reduces_6 (by decide) ?_
          refine slv_icmp_leN eX12_reduces_7 (by omega) (by omega) (fun h7 => absurd h7 (by omega)) (fun h7 => ?_)
          refine slv_aload_n eX12_reduces_10 rfl ?_
          refine slv_aload_n eX12_reduces_11 rfl ?_
          refine slr_ga (p := 96) eX12_reduces_12 fX12_98 rfl ?_
          refine slv_iload_n eX12_reduces_15 rfl ?_
          refine slv_iconst (v := nI 1) eX12_reduces_16 (by decide) ?_
          refine slv_isubN eX12_reduces_17 (by omega) ?_
          refine slr_ialdX (k := 54) (p := 96) (len := 16) eX12_reduces_18 rfl (by repeat (first | exact sl_u_eq | assumption | apply rf_ne (by decide) | exact rfl)) (by omega) (by decide) c1 ?_
          refine slv_aload_n eX12_reduces_19 rfl ?_
          refine slr_ga (p := 96) eX12_reduces_20 fX12_98 rfl ?_
          refine slv_iload_n eX12_reduces_23 rfl ?_
          refine slr_ialdX (k := 54) (p := 96) (len := 16) eX12_reduces_24 rfl (by repeat (first | exact sl_u_eq | assumption | apply rf_ne (by decide) | exact rfl)) (by omega) (by decide) d1 ?_
          refine slv_iload_n eX12_reduces_25 rfl ?_
          refine slv_rV (As := [_, _, _]) eX12_reduces_26 lX12_456 rfl rfl rf_68 rfl hRl (by decide) (Nat.le_of_ble_eq_true rfl) ?_
          refine slv_iconst (v := nI 2) eX12_reduces_29 (by decide) ?_
          refine slv_icmp_ne eX12_reduces_30 (fun h30 => ?_) (fun h30 => absurd h30 h2)
          exact hQ z
  refine sl_T.of_V (lv := [_, _, _, _]) (by decide) rfl (Nat.le_of_ble_eq_true rfl) ?_
  refine slv_aload_n eX12_reduces_0 rfl ?_
  refine slr_gi eX12_reduces_1 fX12_438 rfl (by repeat (first | exact sl_u_eq | assumption | apply rf_ne (by decide) | exact rfl)) ?_
  refine slv_istore_n (i := 2) (lv' := [_, _, _, _]) eX12_reduces_4 rfl (by decide) rfl ?_
  refine loop (rd_tp S) _ htp1 (Nat.le_refl _) _ (fun z => re_39 hE hI hG hf hfa (by omega) hR hh1 hhd.1 (fun v' a' z1 z2 z3 => ?_))
  rw [hred]
  exact ⟨rfl, v', a', rfl, z1, z2, z3⟩
end RRF2
