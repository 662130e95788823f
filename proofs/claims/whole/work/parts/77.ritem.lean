/-! the reference reads an item -/
theorem gm_sR {R : gr_T} {g : sg_T} {k : Nat} (h : gm_o R g = some k) : (gm_s R g).1 = R := by
  unfold gm_o at h
  unfold gm_s
  cases hk : gm_k g (gr_wd R) with
  | some k => rfl
  | none =>
    rw [hk] at h
    simp only at h ⊢
    by_cases e : sg_names g < 6
    · rw [if_pos e]
    · rw [if_neg e] at h; cases h
theorem gt_sR {R : gr_T} {g : sg_T} {x k : Nat} (h : gt_o g x = some k) : (gt_s R g x).1 = R := by
  unfold gt_o at h
  unfold gt_s
  cases hk : gt_k g x with
  | some k => rfl
  | none =>
    rw [hk] at h
    simp only at h ⊢
    by_cases e : sg_terms g < 11
    · rw [if_pos e]
    · rw [if_neg e] at h; cases h
section RIU
variable {v : Nat → Int32} {w : Int64} {a : Nat → Nat → Int32} {nm : Nat → Int64} {M : sl_M} {f : Nat → Int32} {ln : Nat} {R : gr_T} {g : sg_T}
set_option maxRecDepth 100000 in
theorem rm_itemTail (h27 : a 27 = f) (hl : ln ≤ 900) (ht : rm_t ln R v w) (hg : rm_g g v a nm) (hr : sg_rules g < 12) (hl5 : sg_lens g (sg_rules g) < 5) (hk : gr_a R ≤ ln) {x : Nat} {z2 z4 : Option Value} {b3 : Int32} {Q : Option Value → sl_M → Prop} (hQ : ∀ v' w', (∀ k, k ∉ [30, 31, 32, 33] → v' k = v k) → rm_t ln (gr_tok f ln (gr_to 5 R)) v' w' → Q none (rf_S v' w' (sl_u a 9 (sl_u (a 9) (5 * sg_rules g + sg_lens g (sg_rules g)) (nI x))) nm M)) : sl_V YX12_readItem none 8 0 0 Q 125 [some (.ref 68), some (.int (nI (sg_lens g (sg_rules g)))), z2, some (.int b3), z4] [.int (nI x)] (rf_S v w a nm M) := by
  have hN := c_X12_next (v := v) (w := w) (nm := nm) (M := M) (R := gr_to 5 R) h27 hl ht.2.1 ht.1 ht.2.2.1 hk
  have g1 := hg.1
  refine slv_istore (lv' := [_, _, _, _, _]) eX12_readItem_125 (by decide) rfl ?_
  refine slv_aload_n eX12_readItem_127 rfl ?_
  refine slv_callV (As := []) eX12_readItem_128 lX12_220 rfl rfl rf_68 rfl hN (by decide) (Nat.le_of_ble_eq_true rfl) (Nat.zero_add _).symm (Nat.zero_add _).symm (Or.inl rfl) ?_
  rintro _ _ ⟨rfl, v1, w1, rfl, hv1, ht1⟩
  have hf1 := ht1.1
  have hr1 : v1 17 = nI (sg_rules g) := (hv1 _ (by decide)).trans g1
  refine slv_aload_n eX12_readItem_131 rfl ?_
  refine slr_gi eX12_readItem_132 fX12_165 rfl (by repeat (first | exact sl_u_eq | assumption | apply rf_ne (by decide) | exact rfl)) ?_
  refine slv_if_ne eX12_readItem_135 (fun h135 => absurd rfl h135) (fun h135 => ?_)
  refine slv_aload_n eX12_readItem_138 rfl ?_
  refine slr_ga (p := 75) eX12_readItem_139 fX12_32 rfl ?_
  refine slv_iconst (v := nI 5) eX12_readItem_142 (by decide) ?_
  refine slv_aload_n eX12_readItem_143 rfl ?_
  refine slr_gi eX12_readItem_144 fX12_239 rfl (by repeat (first | exact sl_u_eq | assumption | apply rf_ne (by decide) | exact rfl)) ?_
  refine slv_imulN eX12_readItem_147 ?_
  refine slv_iload_n eX12_readItem_148 rfl ?_
  refine slv_iaddN eX12_readItem_149 ?_
  refine slv_iload eX12_readItem_150 rfl ?_
  refine slr_iastX (k := 9) (p := 75) (len := 60) eX12_readItem_152 rfl (by repeat (first | exact sl_u_eq | assumption | apply rf_ne (by decide) | exact rfl)) (by omega) (by decide) (rf_t9 _ _ _ _ _) ?_
  refine slv_vret eX12_readItem_153 rfl ?_
  exact hQ v1 w1 hv1 ht1
set_option maxRecDepth 100000 in
theorem rm_readItemB (hS : st_all) {k n : Nat} (hk : 0 < k) (hk2 : k < 100) (h34 : v 34 = nI k) (h31 : v 31 = nI 0) (hn : n < 6) : sl_R YX12_readItem 8 [.ref 68, .int (nI n)] (rf_S v w a nm M) none (rf_S v w a nm M) := by
  refine sl_T.of_V (lv := [_, _, _, _, _]) (by decide) rfl (Nat.le_of_ble_eq_true rfl) ?_
  refine slv_aload_n eX12_readItem_0 rfl ?_
  refine slv_ldcS (tx := "value") 8 eX12_readItem_1 (by decide +kernel) ?_
  refine slv_rV (As := [_]) eX12_readItem_3 lX12_212 rfl rfl rf_68 rfl (rm_isHereB hS h31 (j := 8) (by decide) (by decide)) (by decide) (Nat.le_of_ble_eq_true rfl) ?_
  refine slv_istore_n (i := 2) (lv' := [_, _, _, _, _]) eX12_readItem_6 rfl (by decide) rfl ?_
  refine slv_aload_n eX12_readItem_7 rfl ?_
  refine slv_rV (As := []) eX12_readItem_8 lX12_264 rfl rfl rf_68 rfl (rm_isNameB h31) (by decide) (Nat.le_of_ble_eq_true rfl) ?_
  refine slv_istore_n (i := 3) (lv' := [_, _, _, _, _]) eX12_readItem_11 rfl (by decide) rfl ?_
  refine slv_iload_n eX12_readItem_12 rfl ?_
  refine slv_if_neB eX12_readItem_13 (fun h13 => absurd h13 (by decide)) (fun h13 => ?_)
  refine slv_iload_n eX12_readItem_16 rfl ?_
  refine slv_if_neB eX12_readItem_17 (fun h17 => absurd h17 (by decide)) (fun h17 => ?_)
  refine slv_aload_n eX12_readItem_20 rfl ?_
  refine slr_gi eX12_readItem_21 fX12_177 rfl (by repeat (first | exact sl_u_eq | assumption | apply rf_ne (by decide) | exact rfl)) ?_
  refine slv_iconst (v := nI 3) eX12_readItem_24 (by decide) ?_
  refine slv_icmp_eqN eX12_readItem_25 (by omega) (by omega) (fun h25 => absurd h25 (by omega)) (fun h25 => ?_)
  refine slv_aload_n eX12_readItem_28 rfl ?_
  refine slv_iconst (v := nI 1) eX12_readItem_29 (by decide) ?_
  refine slv_rV (As := [_]) eX12_readItem_30 lX12_216 rfl rfl rf_68 rfl (c_X12_flawB hk hk2 h34 h31 1) (by decide) (Nat.le_of_ble_eq_true rfl) ?_
  refine slv_aload_n eX12_readItem_33 rfl ?_
  refine slr_gi eX12_readItem_34 fX12_165 rfl (by repeat (first | exact sl_u_eq | assumption | apply rf_ne (by decide) | exact rfl)) ?_
  refine slv_if_neN eX12_readItem_37 (by omega) (fun h37 => ?_) (fun h37 => absurd h37 (by omega))
  refine slv_aload_n eX12_readItem_70 rfl ?_
  refine slr_gi eX12_readItem_71 fX12_165 rfl (by repeat (first | exact sl_u_eq | assumption | apply rf_ne (by decide) | exact rfl)) ?_
  refine slv_if_neN eX12_readItem_74 (by omega) (fun h74 => ?_) (fun h74 => absurd h74 (by omega))
  refine slv_aload_n eX12_readItem_87 rfl ?_
  refine slr_gi eX12_readItem_88 fX12_165 rfl (by repeat (first | exact sl_u_eq | assumption | apply rf_ne (by decide) | exact rfl)) ?_
  refine slv_if_leN eX12_readItem_91 (by omega) (fun h91 => absurd h91 (by omega)) (fun h91 => ?_)
  refine slv_vret eX12_readItem_94 rfl ?_
  exact ⟨rfl, rfl⟩
/-- what reading an item comes to -/
def rIo (ln : Nat) (C C' : gr_T × sg_T) (v : Nat → Int32) (a : Nat → Nat → Int32) (v' : Nat → Int32) (w' : Int64) (a' : Nat → Nat → Int32) (nm' : Nat → Int64) : Prop :=
  (∀ k, k ∉ [18, 19, 30, 31, 32, 33, 34] → v' k = v k) ∧ (∀ k, k ∉ [9, 12] → a' k = a k) ∧ ((rOK ln 5 C' v' w' a' nm' ∧ rm_i C'.2 a' ∧ sg_lens C'.2 (sg_rules C.2) = sg_lens C.2 (sg_rules C.2) + 1 ∧ sg_rules C'.2 = sg_rules C.2 ∧ sg_heads C'.2 = sg_heads C.2 ∧ gr_hd C'.1 = gr_hd C.1 ∧ sg_kind C'.2 = sg_kind C.2) ∨ rBAD C' v')
theorem rIo_fl {ln : Nat} {R : gr_T} {g : sg_T} {v : Nat → Int32} {a : Nat → Nat → Int32} {w : Int64} {nm : Nat → Int64} (h : rm_t ln R v w) {k : Nat} (h1 : 0 < k) (h2 : k < 100) : rIo ln (R, g) (gr_fl k R, g) v a (sl_u (sl_u v 34 (nI k)) 31 (nI 0)) w a nm := by
  refine ⟨fun j hj => ?_, fun _ _ => rfl, Or.inr (rBAD_fl h h1 h2)⟩
  rw [sl_u_ne (fun e => hj (by rw [e]; decide)), sl_u_ne (fun e => hj (by rw [e]; decide))]
theorem rm_itemFin {st : Nat} (h27 : a 27 = f) (hl : ln ≤ 900) (hC : rOK ln st (R, g) v w a nm) {g1 : sg_T} {v1 : Nat → Int32} {a1 : Nat → Nat → Int32} {nm1 : Nat → Int64} {x : Nat} (hv1 : ∀ k, k ∉ [18, 19] → v1 k = v k) (ha1 : ∀ k, k ∉ [12] → a1 k = a k) (ht1 : rm_t ln R v1 w) (hg1 : rm_g g1 v1 a1 nm1) (hi1 : rm_i g1 a1) (hr1 : sg_rules g1 = sg_rules g) (hln : sg_lens g1 = sg_lens g) (hh : sg_heads g1 = sg_heads g) (hkd : sg_kind g1 = sg_kind g) (hok1 : sg_ok g1) (hl5 : sg_lens g (sg_rules g) < 5) (hr : sg_rules g < 12) (htk : gp_take R g = (gr_to 5 R, gp_ai g1 x)) (hgs : gsp 5 (gp_ai g1 x)) {z2 z4 : Option Value} {b3 : Int32} : sl_V YX12_readItem none 8 0 0 (fun r M' => r = none ∧ ∃ v' w' a' nm', M' = rf_S v' w' a' nm' M ∧ rIo ln (R, g) (stp f ln (R, g)) v a v' w' a' nm') 125 [some (.ref 68), some (.int (nI (sg_lens g (sg_rules g)))), z2, some (.int b3), z4] [.int (nI x)] (rf_S v1 w a1 nm1 M) := by
  obtain ⟨ht, hg, hk, hs, he, hst⟩ := hC
  simp only at ht hg hk hs he hst
  have hko := gpo_k_take hk
  rw [htk] at hko
  have hst' : stp f ln (R, g) = (gr_tok f ln (gr_to 5 R), gp_ai g1 x) := stp_go he htk he
  rw [hst']
  have e1 : sg_lens g (sg_rules g) = sg_lens g1 (sg_rules g1) := by rw [hln, hr1]
  have hkk := gr_tok_k (R := gr_to 5 R) f hk.1
  rw [e1] at hl5 ⊢
  have hga := fun x => rm_g_ai hg1 hi1 hok1 (by omega) x
  refine rm_itemTail ((ha1 _ (by decide)).trans h27) hl ht1 hg1 (by omega) hl5 hk.1 (fun v' w' hv' ht' => ⟨rfl, v', w', _, nm1, rfl, fun k hk' => ?_, fun k hk' => ?_, Or.inl ⟨⟨ht', rm_g_v (hga x).1 (hv' _ (by decide)) (hv' _ (by decide)) (hv' _ (by decide)), gpo_k_tok f hko, ?_, hkk.1.2.2.trans he, hkk.1.1⟩, (hga x).2, ?_, hr1, hh, hkk.1.2.1, hkd⟩⟩)
  · exact (hv' k (fun q => hk' (by revert q; simp; omega))).trans (hv1 k (fun q => hk' (by revert q; simp; omega)))
  · rw [sl_u_ne (fun e => hk' (by rw [e]; decide))]
    exact ha1 k (fun q => hk' (by revert q; simp; omega))
  · show gsp (gr_st (gr_tok f ln (gr_to 5 R))) _
    rw [hkk.1.1]
    exact hgs
  · show sl_u (sg_lens g1) (sg_rules g1) (sg_lens g1 (sg_rules g1) + 1) (sg_rules g) = sg_lens g (sg_rules g) + 1
    rw [hr1, sl_u_eq, hln]
theorem rm_g_gm (hg : rm_g g v a nm) (hi : rm_i g a) {y : Int32} (hw : wrd w y) : rm_g (gm_n g y) (sl_u v 18 (nI (sg_names g + 1))) a (sl_u nm (sg_names g) w) ∧ rm_i (gm_n g y) a := by
  obtain ⟨g1, g2, g3, g4, g5, g6, g7⟩ := hg
  refine ⟨⟨g1, rfl, g3, g4, g5, g6, fun i h => ?_⟩, hi⟩
  have h' : i < sg_names g + 1 := h
  show wrd (sl_u nm (sg_names g) w i) (sl_u (sg_words g) (sg_names g) y i)
  by_cases e : i = sg_names g
  · rw [e, sl_u_eq, sl_u_eq]; exact hw
  · rw [sl_u_ne e, sl_u_ne e]; exact g7 i (by omega)
theorem rm_g_gt (hg : rm_g g v a nm) (hi : rm_i g a) (x : Nat) : rm_g (gt_n g x) (sl_u v 19 (nI (sg_terms g + 1))) (sl_u a 12 (sl_u (a 12) (sg_terms g) (nI x))) nm ∧ rm_i (gt_n g x) (sl_u a 12 (sl_u (a 12) (sg_terms g) (nI x))) := by
  obtain ⟨g1, g2, g3, g4, g5, g6, g7⟩ := hg
  refine ⟨⟨g1, g2, rfl, g4, g5, fun i h => ?_, g7⟩, hi⟩
  have h' : i < sg_terms g + 1 := h
  show sl_u (a 12) (sg_terms g) (nI x) i = nI (sl_u (sg_signs g) (sg_terms g) x i)
  by_cases e : i = sg_terms g
  · rw [e, sl_u_eq, sl_u_eq]
  · rw [sl_u_ne e, sl_u_ne e]; exact g6 i (by omega)
theorem rm_t_v {v' : Nat → Int32} (h : rm_t ln R v w) (hv : ∀ k, k ∉ [18, 19] → v' k = v k) : rm_t ln R v' w := by
  obtain ⟨h1, h2, h3, h4, h5, h6, h7⟩ := h
  exact ⟨(hv _ (by decide)).trans h1, (hv _ (by decide)).trans h2, (hv _ (by decide)).trans h3, (hv _ (by decide)).trans h4, (hv _ (by decide)).trans h5, h6, fun q => (hv _ (by decide)).trans (h7 q)⟩
set_option maxRecDepth 100000 in
theorem rm_itemT {st : Nat} (h27 : a 27 = f) (hl : ln ≤ 900) (h45 : st = 4 ∨ st = 5) (hC : rOK ln st (R, g) v w a nm) (hi : rm_i g a) {x : Nat} (hx : x < 256) (hl5 : sg_lens g (sg_rules g) < 5) (htk : gp_take R g = gp_ti R g x) {z2 z4 : Option Value} {b3 : Int32} : sl_V YX12_readItem none 8 0 0 (fun r M' => r = none ∧ ∃ v' w' a' nm', M' = rf_S v' w' a' nm' M ∧ rIo ln (R, g) (stp f ln (R, g)) v a v' w' a' nm') 125 [some (.ref 68), some (.int (nI (sg_lens g (sg_rules g)))), z2, some (.int b3), z4] [.int (nI (match gt_k g x with
    | some k => k
    | none => if sg_terms g < 11 then sg_terms g else 0))] (match gt_k g x with
    | some _ => rf_S v w a nm M
    | none => if sg_terms g < 11 then rf_S (sl_u v 19 (nI (sg_terms g + 1))) w (sl_u a 12 (sl_u (a 12) (sg_terms g) (nI x))) nm M else rf_S (sl_u (sl_u v 34 (nI 4)) 31 (nI 0)) w a nm M) := by
  have hC' := hC
  obtain ⟨ht, hg, hk, hs, he, hst⟩ := hC
  simp only at ht hg hk hs he hst
  have hok := hk.2.2.2.2.1
  have hr : sg_rules g < 12 := hk.2.2.2.2.2.2.1 (by omega) (by omega)
  obtain ⟨n1, n2, n3, n4, n5, n6, n7, n8, n9⟩ := gt_nm (R := R) (g := g) hx hok hs.2.2.2.2.1
  obtain ⟨o1, o2, o3, o4⟩ := gt_ok (R := R) (g := g) hx hok
  have hgs : ∀ k, gt_o g x = some k → gsp 5 (gp_ai (gt_s R g x).2 k) := by
    intro k hk'
    have := o4 k hk'
    refine gsp_ai hs (by omega) (by omega) o2 (Nat.le_of_eq n2.symm) n1 n3 o3 n4 n5 n7 n8 (fun r hr' => (hok.2.2.2.2.2.1 r (by omega)).2.2) ⟨fun _ => n9 k hk', fun q => by omega⟩ (fun q => by omega)
  unfold gp_ti at htk
  rw [if_pos hl5] at htk
  have hRs := fun k => gt_sR (R := R) (g := g) (x := x) (k := k)
  unfold gt_o at htk hRs hgs
  unfold gt_s at htk hRs hgs o1
  cases hq : gt_k g x with
  | some k =>
    rw [hq] at htk hRs hgs
    simp only [gp_jo, Nat.zero_add] at htk hRs hgs
    exact rm_itemFin h27 hl hC' (fun _ _ => rfl) (fun _ _ => rfl) ht hg hi rfl rfl rfl rfl hok hl5 hr htk (hgs k rfl)
  | none =>
    rw [hq] at htk hRs hgs o1
    simp only at htk hRs hgs o1 ⊢
    by_cases h11 : sg_terms g < 11
    · rw [if_pos h11, if_pos h11] at htk
      rw [if_pos h11] at o1
      have hgs' := hgs (sg_terms g) (by rw [if_pos h11])
      rw [if_pos h11] at hgs'
      simp only [gp_jo, Nat.zero_add] at htk
      rw [if_pos h11, if_pos h11]
      have hv : ∀ k, k ∉ [18, 19] → sl_u v 19 (nI (sg_terms g + 1)) k = v k := fun k hk' => sl_u_ne (fun e => hk' (by rw [e]; decide))
      exact rm_itemFin h27 hl hC' hv (fun k hk' => sl_u_ne (fun e => hk' (by rw [e]; decide))) (rm_t_v ht hv) (rm_g_gt hg hi x).1 (rm_g_gt hg hi x).2 rfl rfl rfl rfl o1 hl5 hr htk hgs'
    · rw [if_neg h11, if_neg h11] at htk
      simp only [gp_jo] at htk
      rw [if_neg h11, if_neg h11, show stp f ln (R, g) = (gr_fl 4 R, g) from stp_fl he htk]
      have hN := c_X12_nextB (v := sl_u (sl_u v 34 (nI 4)) 31 (nI 0)) (w := w) (a := a) (nm := nm) (M := M) (k := 4) (by omega) (by omega) rfl
      refine slv_istore (lv' := [_, _, _, _, _]) eX12_readItem_125 (by decide) rfl ?_
      refine slv_aload_n eX12_readItem_127 rfl ?_
      refine slv_rV (As := []) eX12_readItem_128 lX12_220 rfl rfl rf_68 rfl hN (by decide) (Nat.le_of_ble_eq_true rfl) ?_
      refine slv_aload_n eX12_readItem_131 rfl ?_
      refine slr_gi eX12_readItem_132 fX12_165 rfl (by repeat (first | exact sl_u_eq | assumption | apply rf_ne (by decide) | exact rfl)) ?_
      refine slv_if_neN eX12_readItem_135 (by omega) (fun h135 => ?_) (fun h135 => absurd h135 (by omega))
      refine slv_vret eX12_readItem_153 rfl ?_
      exact ⟨rfl, _, _, _, _, rfl, rIo_fl ht (by omega) (by omega)⟩
end RIU
