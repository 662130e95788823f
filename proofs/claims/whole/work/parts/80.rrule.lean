/-! the reference reads a rule: as the machine does -/
theorem rOK_h {ln st : Nat} {R : gr_T} {g' : sg_T} {f : Nat → Int32} {v' : Nat → Int32} {w' : Int64} {a' : Nat → Nat → Int32} {nm' : Nat → Int64} (ha : gr_a R ≤ ln) (he : gr_en R = false) (ht : rm_t ln (gr_tok f ln (gr_to st R)) v' w') (hg : rm_g g' v' a' nm') (hk : gpo_k ln (gr_to st R) g') (hs : gsp st g') : rOK ln st (gr_tok f ln (gr_to st R), g') v' w' a' nm' := by
  have hkk := gr_tok_k (R := gr_to st R) f ha
  refine ⟨ht, hg, gpo_k_tok f hk, ?_, hkk.1.2.2.trans he, hkk.1.1⟩
  show gsp (gr_st (gr_tok f ln (gr_to st R))) g'
  rw [hkk.1.1]
  exact hs
section RRV
variable {v : Nat → Int32} {w : Int64} {a : Nat → Nat → Int32} {nm : Nat → Int64} {M : sl_M} {f : Nat → Int32} {ln : Nat} {R : gr_T} {g : sg_T} {Q : Option Value → sl_M → Prop}
set_option maxRecDepth 100000 in
theorem rm_rule110 (hS : st_all) (h27 : a 27 = f) (hl : ln ≤ 900) (hC : rOK ln 6 (R, g) v w a nm) (hi : rm_i g a) (hQ : rRq f ln M (R, g) v a Q) {l3 : Option Value} : sl_V YX12_readRule none 9 0 0 Q 110 [some (.ref 68), some (.int (nI (sg_heads g (sg_rules g)))), some (.int (nI (sg_lens g (sg_rules g)))), l3] [] (rf_S v w a nm M) := by
  obtain ⟨ht, hg, hk, hs, he, hst⟩ := hC
  simp only at ht hg hk hs he hst
  have htk := hk.2.1
  have hok := hk.2.2.2.2.1
  have hr : sg_rules g < 12 := hk.2.2.2.2.2.2.1 (by omega) (by omega)
  have h34 := ht.1
  have hta := take_6 (g := g) hst
  have hD := rm_deedHere (a := a) (nm := nm) (M := M) hS ht htk
  rw [hst] at hs
  obtain ⟨b1, b2, b3, b4, b5⟩ := hs.2.2.2.2.2 (by omega) (by omega)
  have hko := gpo_k_take hk
  have g1 := hg.1
  unfold gp_deed at hta
  cases hd : gp_dw R with
  | none =>
    rw [hd] at hta hD
    simp only at hta hD
    have hq := hQ _ w a nm _ (rst_1 f ln (R, g)) (rfr_fl v a 1) (by rw [show stp f ln (R, g) = (gr_fl 1 R, g) from stp_fl he hta]; exact Or.inr (rBAD_fl ht (by omega) (by omega)))
    refine slv_aload_n eX12_readRule_110 rfl ?_
    refine slv_rV (As := []) eX12_readRule_111 lX12_277 rfl rfl rf_68 rfl hD (by decide) (Nat.le_of_ble_eq_true rfl) ?_
    refine slv_istore_n (i := 3) (lv' := [_, _, _, _]) eX12_readRule_114 rfl (by decide) rfl ?_
    exact rb115 (k := 1) (by omega) (by omega) rfl hq
  | some d =>
    rw [hd] at hta hD
    simp only at hta hD
    have hd9 : d < 9 := by
      obtain ⟨_, q, _⟩ := sl_fn_lt _ 0 d hd
      omega
    have hG := rm_goesWith (w := w) (M := M) hg hi hok hr (b5 (by omega)) (fun i h1 h2 => (b2 i h1).1 h2) hs.2.2.2.2.1 hd9
    cases hgo : gp_goes g d with
    | false =>
      rw [hgo] at hta hG
      rw [cond_false] at hta
      have hq := hQ _ w a nm _ (rst_1 f ln (R, g)) (rfr_fl v a 2) (by rw [show stp f ln (R, g) = (gr_fl 2 R, g) from stp_fl he hta]; exact Or.inr (rBAD_fl ht (by omega) (by omega)))
      refine slv_aload_n eX12_readRule_110 rfl ?_
      refine slv_rV (As := []) eX12_readRule_111 lX12_277 rfl rfl rf_68 rfl hD (by decide) (Nat.le_of_ble_eq_true rfl) ?_
      refine slv_istore_n (i := 3) (lv' := [_, _, _, _]) eX12_readRule_114 rfl (by decide) rfl ?_
      refine slv_aload_n eX12_readRule_115 rfl ?_
      refine slr_gi eX12_readRule_116 fX12_165 rfl (by repeat (first | exact sl_u_eq | assumption | apply rf_ne (by decide) | exact rfl)) ?_
      refine slv_if_ne eX12_readRule_119 (fun h119 => absurd rfl h119) (fun h119 => ?_)
      refine slv_aload_n eX12_readRule_122 rfl ?_
      refine slv_iload_n eX12_readRule_123 rfl ?_
      refine slv_iload_n eX12_readRule_124 rfl ?_
      refine slv_rV (As := [_, _]) eX12_readRule_125 lX12_280 rfl rfl rf_68 rfl hG (by decide) (Nat.le_of_ble_eq_true rfl) ?_
      refine slv_if_neB eX12_readRule_128 (fun h128 => absurd h128 (by decide)) (fun h128 => ?_)
      refine slv_aload_n eX12_readRule_131 rfl ?_
      refine slv_iconst (v := nI 2) eX12_readRule_132 (by decide) ?_
      refine slv_rV (As := [_]) eX12_readRule_133 lX12_216 rfl rfl rf_68 rfl (c_X12_flaw h34 2) (by decide) (Nat.le_of_ble_eq_true rfl) ?_
      exact rb136 (k := 2) (by omega) (by omega) rfl hq
    | true =>
      rw [hgo] at hta hG
      rw [cond_true] at hta
      rw [hta] at hko
      have hN := c_X12_next (v := v) (w := w) (nm := nm) (M := M) (R := gr_to 7 R) h27 hl ht.2.1 h34 ht.2.2.1 hk.1
      have hst' : stp f ln (R, g) = (gr_tok f ln (gr_to 7 R), gp_de g d) := stp_go he hta he
      have hkk := gr_tok_k (R := gr_to 7 R) f hk.1
      have hgs := gsp_de hs hok hgo
      refine slv_aload_n eX12_readRule_110 rfl ?_
      refine slv_rV (As := []) eX12_readRule_111 lX12_277 rfl rfl rf_68 rfl hD (by decide) (Nat.le_of_ble_eq_true rfl) ?_
      refine slv_istore_n (i := 3) (lv' := [_, _, _, _]) eX12_readRule_114 rfl (by decide) rfl ?_
      refine slv_aload_n eX12_readRule_115 rfl ?_
      refine slr_gi eX12_readRule_116 fX12_165 rfl (by repeat (first | exact sl_u_eq | assumption | apply rf_ne (by decide) | exact rfl)) ?_
      refine slv_if_ne eX12_readRule_119 (fun h119 => absurd rfl h119) (fun h119 => ?_)
      refine slv_aload_n eX12_readRule_122 rfl ?_
      refine slv_iload_n eX12_readRule_123 rfl ?_
      refine slv_iload_n eX12_readRule_124 rfl ?_
      refine slv_rV (As := [_, _]) eX12_readRule_125 lX12_280 rfl rfl rf_68 rfl hG (by decide) (Nat.le_of_ble_eq_true rfl) ?_
      refine slv_if_neB eX12_readRule_128 (fun h128 => ?_) (fun h128 => absurd h128 (by decide))
      refine slv_aload_n eX12_readRule_136 rfl ?_
      refine slv_callV (As := []) eX12_readRule_137 lX12_220 rfl rfl rf_68 rfl hN (by decide) (Nat.le_of_ble_eq_true rfl) (Nat.zero_add _).symm (Nat.zero_add _).symm (Or.inl rfl) ?_
      rintro _ _ ⟨rfl, v1, w1, rfl, hv1, ht1⟩
      have hf1 := ht1.1
      have hr1 : v1 17 = nI (sg_rules g) := (hv1 _ (by decide)).trans g1
      refine slv_aload_n eX12_readRule_140 rfl ?_
      refine slr_gi eX12_readRule_141 fX12_165 rfl (by repeat (first | exact sl_u_eq | assumption | apply rf_ne (by decide) | exact rfl)) ?_
      refine slv_if_leN eX12_readRule_144 (by omega) (fun h144 => ?_) (fun h144 => absurd h144 (by omega))
      refine slv_aload_n eX12_readRule_148 rfl ?_
      refine slr_ga (p := 74) eX12_readRule_149 fX12_29 rfl ?_
      refine slv_aload_n eX12_readRule_152 rfl ?_
      refine slr_gi eX12_readRule_153 fX12_239 rfl (by repeat (first | exact sl_u_eq | assumption | apply rf_ne (by decide) | exact rfl)) ?_
      refine slv_iload_n eX12_readRule_156 rfl ?_
      refine slr_iastX (k := 8) (p := 74) (len := 12) eX12_readRule_157 rfl (by repeat (first | exact sl_u_eq | assumption | apply rf_ne (by decide) | exact rfl)) (by omega) (by decide) (rf_t8 _ _ _ _ _) ?_
      refine slv_aload_n eX12_readRule_158 rfl ?_
      refine slr_ga (p := 76) eX12_readRule_159 fX12_35 rfl ?_
      refine slv_aload_n eX12_readRule_162 rfl ?_
      refine slr_gi eX12_readRule_163 fX12_239 rfl (by repeat (first | exact sl_u_eq | assumption | apply rf_ne (by decide) | exact rfl)) ?_
      refine slv_iload_n eX12_readRule_166 rfl ?_
      refine slr_iastX (k := 10) (p := 76) (len := 12) eX12_readRule_167 rfl (by repeat (first | exact sl_u_eq | assumption | apply rf_ne (by decide) | exact rfl)) (by omega) (by decide) (rf_t10 _ _ _ _ _) ?_
      refine slv_aload_n eX12_readRule_168 rfl ?_
      refine slr_ga (p := 77) eX12_readRule_169 fX12_38 rfl ?_
      refine slv_aload_n eX12_readRule_172 rfl ?_
      refine slr_gi eX12_readRule_173 fX12_239 rfl (by repeat (first | exact sl_u_eq | assumption | apply rf_ne (by decide) | exact rfl)) ?_
      refine slv_iload_n eX12_readRule_176 rfl ?_
      refine slr_iastX (k := 11) (p := 77) (len := 12) eX12_readRule_177 rfl (by repeat (first | exact sl_u_eq | assumption | apply rf_ne (by decide) | exact rfl)) (by omega) (by decide) (rf_t11 _ _ _ _ _) ?_
      refine slv_aload_n eX12_readRule_178 rfl ?_
      refine slv_dup eX12_readRule_179 rfl ?_
      refine slr_gi eX12_readRule_180 fX12_239 rfl (by repeat (first | exact sl_u_eq | assumption | apply rf_ne (by decide) | exact rfl)) ?_
      refine slv_iconst (v := nI 1) eX12_readRule_183 (by decide) ?_
      refine slv_iaddN eX12_readRule_184 ?_
      refine slr_pi eX12_readRule_185 fX12_239 (Nat.le_of_ble_eq_true rfl) rf_s17 ?_
      refine slv_vret eX12_readRule_188 rfl ?_
      refine hQ _ _ _ _ _ (rst_1 f ln (R, g)) ⟨fun k hk' => ?_, fun k hk' => ?_⟩ (Or.inl ⟨?_, ?_, ?_⟩)
      · rw [sl_u_ne (fun e => hk' (by rw [e]; decide))]
        exact hv1 k (fun q => hk' (by revert q; simp; omega))
      · rw [sl_u_ne (fun e => hk' (by rw [e]; decide)), sl_u_ne (fun e => hk' (by rw [e]; decide)), sl_u_ne (fun e => hk' (by rw [e]; decide))]
      · rw [hst']
        refine rOK_h hk.1 he (rm_t_v2 ht1 (fun k hk' => sl_u_ne (fun e => hk' (by rw [e]; decide)))) (rm_g_de hg hi rfl (hv1 _ (by decide)) (hv1 _ (by decide)) rfl rfl rfl rfl rfl) hko hgs
      · rw [hst']
        exact hkk.1.2.1
      · rw [hst']
        rfl
set_option maxRecDepth 100000 in
theorem rm_rule76 (hS : st_all) (hl : ln ≤ 900) : ∀ (n : Nat) (C : gr_T × sg_T) (v : Nat → Int32) (w : Int64) (a : Nat → Nat → Int32) (nm : Nat → Int64) (m : Nat), sg_lens C.2 (sg_rules C.2) = m + 1 → 5 ≤ m + 1 + n → a 27 = f → rOK ln 5 C v w a nm → rm_i C.2 a → ∀ Q, rRq f ln M C v a Q → ∀ l3, sl_V YX12_readRule none 9 0 0 Q 76 [some (.ref 68), some (.int (nI (sg_heads C.2 (sg_rules C.2)))), some (.int (nI m)), l3] [] (rf_S v w a nm M) := by
  intro n
  induction n with
  | zero =>
    rintro ⟨R, g⟩ v w a nm m hm hn h27 hC hi Q hQ l3
    have hC' := hC
    obtain ⟨ht, hg, hk, hs, he, hst⟩ := hC
    simp only at ht hg hk hs he hst hm hi ⊢
    have htk := hk.2.1
    have hok := hk.2.2.2.2.1
    have hr : sg_rules g < 12 := hk.2.2.2.2.2.2.1 (by omega) (by omega)
    have hl5 := (hok.2.2.2.2.2.1 (sg_rules g) hr).2.2
    have h34 := ht.1
    have hH := rm_isHere (a := a) (nm := nm) (M := M) hS ht htk (j := 7) (by decide) (by decide)
    have hta := take_45 (g := g) (Or.inr hst)
    unfold gp_item at hta
    rw [decide_eq_true hst, Bool.true_and] at hta
    cases h7 : gr_is R 7 with
    | true =>
      rw [h7, cond_true] at hta
      rw [h7] at hH
      have hko := gpo_k_take hk
      rw [hta] at hko
      have hst' : stp f ln (R, g) = (gr_tok f ln (gr_to 6 R), g) := stp_go he hta he
      have hkk := gr_tok_k (R := gr_to 6 R) f hk.1
      rw [hst] at hs
      have hN := c_X12_next (v := v) (w := w) (nm := nm) (M := M) (R := gr_to 6 R) h27 hl ht.2.1 h34 ht.2.2.1 hk.1
      refine slv_aload_n eX12_readRule_76 rfl ?_
      refine slr_gi eX12_readRule_77 fX12_165 rfl (by repeat (first | exact sl_u_eq | assumption | apply rf_ne (by decide) | exact rfl)) ?_
      refine slv_if_ne eX12_readRule_80 (fun h80 => absurd rfl h80) (fun h80 => ?_)
      refine slv_aload_n eX12_readRule_83 rfl ?_
      refine slv_ldcS (tx := "does") 7 eX12_readRule_84 (by decide +kernel) ?_
      refine slv_rV (As := [_]) eX12_readRule_86 lX12_212 rfl rfl rf_68 rfl hH (by decide) (Nat.le_of_ble_eq_true rfl) ?_
      refine slv_if_neB eX12_readRule_89 (fun h89 => ?_) (fun h89 => absurd h89 (by decide))
      refine slv_iincN (lv' := [_, _, _, _]) eX12_readRule_103 rfl (by decide) rfl ?_
      refine slv_aload_n eX12_readRule_106 rfl ?_
      refine slv_callV (As := []) eX12_readRule_107 lX12_220 rfl rfl rf_68 rfl hN (by decide) (Nat.le_of_ble_eq_true rfl) (Nat.zero_add _).symm (Nat.zero_add _).symm (Or.inl rfl) ?_
      rintro _ _ ⟨rfl, v1, w1, rfl, hv1, ht1⟩
      rw [← hm]
      exact rm_rule110 hS h27 hl (rOK_h hk.1 he ht1 (rm_g_v hg (hv1 _ (by decide)) (hv1 _ (by decide)) (hv1 _ (by decide))) hko (gsp_56 hs)) hi (rRq_t hQ (hst' ▸ rst_1 f ln (R, g)) (rfr_nx a hv1) hkk.1.2.1 rfl)
    | false =>
      rw [h7] at hH
      have hI := rm_readItem (M := M) hS h27 hl (Or.inr rfl) hC' hi (fun _ => h7)
      rw [hm] at hI
      refine slv_aload_n eX12_readRule_76 rfl ?_
      refine slr_gi eX12_readRule_77 fX12_165 rfl (by repeat (first | exact sl_u_eq | assumption | apply rf_ne (by decide) | exact rfl)) ?_
      refine slv_if_ne eX12_readRule_80 (fun h80 => absurd rfl h80) (fun h80 => ?_)
      refine slv_aload_n eX12_readRule_83 rfl ?_
      refine slv_ldcS (tx := "does") 7 eX12_readRule_84 (by decide +kernel) ?_
      refine slv_rV (As := [_]) eX12_readRule_86 lX12_212 rfl rfl rf_68 rfl hH (by decide) (Nat.le_of_ble_eq_true rfl) ?_
      refine slv_if_neB eX12_readRule_89 (fun h89 => absurd h89 (by decide)) (fun h89 => ?_)
      refine slv_iincN (lv' := [_, _, _, _]) eX12_readRule_92 rfl (by decide) rfl ?_
      refine slv_aload_n eX12_readRule_95 rfl ?_
      refine slv_iload_n eX12_readRule_96 rfl ?_
      refine slv_callV (As := [_]) eX12_readRule_97 lX12_274 rfl rfl rf_68 rfl hI (by decide) (Nat.le_of_ble_eq_true rfl) (Nat.zero_add _).symm (Nat.zero_add _).symm (Or.inl rfl) ?_
      rintro _ _ ⟨rfl, v1, w1, a1, nm1, rfl, hv1, ha1, hO⟩
      refine slv_goto eX12_readRule_100 ?_
      have hfr : rfr v a v1 a1 := ⟨fun k hk' => hv1 k (fun q => hk' (by revert q; simp; omega)), fun k hk' => ha1 k (fun q => hk' (by revert q; simp; omega))⟩
      rcases hO with ⟨o1, o2, o3, o4, o5, o6, o7⟩ | hB
      · exfalso
        have hok1 := o1.2.2.1.2.2.2.2.1
        have := (hok1.2.2.2.2.2.1 (sg_rules g) hr).2.2
        simp only at o3
        omega
      · exact rb76 hS hB.2.1 hB.2.2.1 hB.2.2.2.1 hB.2.2.2.2.2 (by omega) (hQ _ _ _ _ _ (rst_1 f ln (R, g)) hfr (Or.inr hB))
  | succ n ih =>
    rintro ⟨R, g⟩ v w a nm m hm hn h27 hC hi Q hQ l3
    have hC' := hC
    obtain ⟨ht, hg, hk, hs, he, hst⟩ := hC
    simp only at ht hg hk hs he hst hm hi ⊢
    have htk := hk.2.1
    have hok := hk.2.2.2.2.1
    have hr : sg_rules g < 12 := hk.2.2.2.2.2.2.1 (by omega) (by omega)
    have hl5 := (hok.2.2.2.2.2.1 (sg_rules g) hr).2.2
    have h34 := ht.1
    have hH := rm_isHere (a := a) (nm := nm) (M := M) hS ht htk (j := 7) (by decide) (by decide)
    have hta := take_45 (g := g) (Or.inr hst)
    unfold gp_item at hta
    rw [decide_eq_true hst, Bool.true_and] at hta
    cases h7 : gr_is R 7 with
    | true =>
      rw [h7, cond_true] at hta
      rw [h7] at hH
      have hko := gpo_k_take hk
      rw [hta] at hko
      have hst' : stp f ln (R, g) = (gr_tok f ln (gr_to 6 R), g) := stp_go he hta he
      have hkk := gr_tok_k (R := gr_to 6 R) f hk.1
      rw [hst] at hs
      have hN := c_X12_next (v := v) (w := w) (nm := nm) (M := M) (R := gr_to 6 R) h27 hl ht.2.1 h34 ht.2.2.1 hk.1
      refine slv_aload_n eX12_readRule_76 rfl ?_
      refine slr_gi eX12_readRule_77 fX12_165 rfl (by repeat (first | exact sl_u_eq | assumption | apply rf_ne (by decide) | exact rfl)) ?_
      refine slv_if_ne eX12_readRule_80 (fun h80 => absurd rfl h80) (fun h80 => ?_)
      refine slv_aload_n eX12_readRule_83 rfl ?_
      refine slv_ldcS (tx := "does") 7 eX12_readRule_84 (by decide +kernel) ?_
      refine slv_rV (As := [_]) eX12_readRule_86 lX12_212 rfl rfl rf_68 rfl hH (by decide) (Nat.le_of_ble_eq_true rfl) ?_
      refine slv_if_neB eX12_readRule_89 (fun h89 => ?_) (fun h89 => absurd h89 (by decide))
      refine slv_iincN (lv' := [_, _, _, _]) eX12_readRule_103 rfl (by decide) rfl ?_
      refine slv_aload_n eX12_readRule_106 rfl ?_
      refine slv_callV (As := []) eX12_readRule_107 lX12_220 rfl rfl rf_68 rfl hN (by decide) (Nat.le_of_ble_eq_true rfl) (Nat.zero_add _).symm (Nat.zero_add _).symm (Or.inl rfl) ?_
      rintro _ _ ⟨rfl, v1, w1, rfl, hv1, ht1⟩
      rw [← hm]
      exact rm_rule110 hS h27 hl (rOK_h hk.1 he ht1 (rm_g_v hg (hv1 _ (by decide)) (hv1 _ (by decide)) (hv1 _ (by decide))) hko (gsp_56 hs)) hi (rRq_t hQ (hst' ▸ rst_1 f ln (R, g)) (rfr_nx a hv1) hkk.1.2.1 rfl)
    | false =>
      rw [h7] at hH
      have hI := rm_readItem (M := M) hS h27 hl (Or.inr rfl) hC' hi (fun _ => h7)
      rw [hm] at hI
      refine slv_aload_n eX12_readRule_76 rfl ?_
      refine slr_gi eX12_readRule_77 fX12_165 rfl (by repeat (first | exact sl_u_eq | assumption | apply rf_ne (by decide) | exact rfl)) ?_
      refine slv_if_ne eX12_readRule_80 (fun h80 => absurd rfl h80) (fun h80 => ?_)
      refine slv_aload_n eX12_readRule_83 rfl ?_
      refine slv_ldcS (tx := "does") 7 eX12_readRule_84 (by decide +kernel) ?_
      refine slv_rV (As := [_]) eX12_readRule_86 lX12_212 rfl rfl rf_68 rfl hH (by decide) (Nat.le_of_ble_eq_true rfl) ?_
      refine slv_if_neB eX12_readRule_89 (fun h89 => absurd h89 (by decide)) (fun h89 => ?_)
      refine slv_iincN (lv' := [_, _, _, _]) eX12_readRule_92 rfl (by decide) rfl ?_
      refine slv_aload_n eX12_readRule_95 rfl ?_
      refine slv_iload_n eX12_readRule_96 rfl ?_
      refine slv_callV (As := [_]) eX12_readRule_97 lX12_274 rfl rfl rf_68 rfl hI (by decide) (Nat.le_of_ble_eq_true rfl) (Nat.zero_add _).symm (Nat.zero_add _).symm (Or.inl rfl) ?_
      rintro _ _ ⟨rfl, v1, w1, a1, nm1, rfl, hv1, ha1, hO⟩
      refine slv_goto eX12_readRule_100 ?_
      have hfr : rfr v a v1 a1 := ⟨fun k hk' => hv1 k (fun q => hk' (by revert q; simp; omega)), fun k hk' => ha1 k (fun q => hk' (by revert q; simp; omega))⟩
      rcases hO with ⟨o1, o2, o3, o4, o5, o6, o7⟩ | hB
      · simp only at o3 o4 o5 o6 o7
        have h1 := ih (stp f ln (R, g)) v1 w1 a1 nm1 (m + 1) (by rw [o4, o3, hm]) (by omega) ((ha1 _ (by decide)).trans h27) o1 o2 Q (rRq_t hQ (rst_1 f ln (R, g)) hfr o6 o7) l3
        rw [o4, o5] at h1
        exact h1
      · exact rb76 hS hB.2.1 hB.2.2.1 hB.2.2.2.1 hB.2.2.2.2.2 (by omega) (hQ _ _ _ _ _ (rst_1 f ln (R, g)) hfr (Or.inr hB))
set_option maxRecDepth 100000 in
theorem rm_rule69 (hS : st_all) (h27 : a 27 = f) (hl : ln ≤ 900) (hC : rOK ln 4 (R, g) v w a nm) (hQ : rRq f ln M (R, g) v a Q) {l2 l3 : Option Value} : sl_V YX12_readRule none 9 0 0 Q 69 [some (.ref 68), some (.int (nI (sg_heads g (sg_rules g)))), l2, l3] [] (rf_S v w a nm M) := by
  have hs := hC.2.2.2.1
  have hst := hC.2.2.2.2.2
  have h34 := hC.1.1
  simp only at hs hst h34
  rw [hst] at hs
  obtain ⟨b1, b2, b3, b4, b5⟩ := hs.2.2.2.2.2 (by omega) (by omega)
  have h0 := b4 (by omega)
  have hI := rm_readItem (M := M) hS h27 hl (Or.inl rfl) hC (fun i q => by omega) (fun q => by omega)
  rw [h0] at hI
  refine slv_iconst (v := nI 0) eX12_readRule_69 (by decide) ?_
  refine slv_istore_n (i := 2) (lv' := [_, _, _, _]) eX12_readRule_70 rfl (by decide) rfl ?_
  refine slv_aload_n eX12_readRule_71 rfl ?_
  refine slv_iconst (v := nI 0) eX12_readRule_72 (by decide) ?_
  refine slv_callV (As := [_]) eX12_readRule_73 lX12_274 rfl rfl rf_68 rfl hI (by decide) (Nat.le_of_ble_eq_true rfl) (Nat.zero_add _).symm (Nat.zero_add _).symm (Or.inl rfl) ?_
  rintro _ _ ⟨rfl, v1, w1, a1, nm1, rfl, hv1, ha1, hO⟩
  have hfr : rfr v a v1 a1 := ⟨fun k hk' => hv1 k (fun q => hk' (by revert q; simp; omega)), fun k hk' => ha1 k (fun q => hk' (by revert q; simp; omega))⟩
  rcases hO with ⟨o1, o2, o3, o4, o5, o6, o7⟩ | hB
  · simp only at o3 o4 o5 o6 o7
    have h1 := rm_rule76 (M := M) hS hl 5 (stp f ln (R, g)) v1 w1 a1 nm1 0 (by rw [o4, o3, h0]) (by omega) ((ha1 _ (by decide)).trans h27) o1 o2 Q (rRq_t hQ (rst_1 f ln (R, g)) hfr o6 o7) l3
    rw [o4, o5] at h1
    exact h1
  · exact rb76 hS hB.2.1 hB.2.2.1 hB.2.2.2.1 hB.2.2.2.2.2 (n := 0) (by omega) (hQ _ _ _ _ _ (rst_1 f ln (R, g)) hfr (Or.inr hB))
end RRV
