/-! the reference reads an item: all of it -/
section RIV
variable {v : Nat → Int32} {w : Int64} {a : Nat → Nat → Int32} {nm : Nat → Int64} {M : sl_M} {f : Nat → Int32} {ln : Nat} {R : gr_T} {g : sg_T}
theorem gr_nw_t (h : gr_nw R = true) : gr_tk R = 1 ∧ gr_is R 7 = false ∧ gr_is R 8 = false := by
  unfold gr_nw at h
  simp only [Bool.and_eq_true, Bool.not_eq_true', decide_eq_true_eq] at h
  exact ⟨h.1, h.2.2.2.2.1, h.2.2.2.2.2⟩
set_option maxRecDepth 100000 in
theorem rm_itemN {st : Nat} (h27 : a 27 = f) (hl : ln ≤ 900) (h45 : st = 4 ∨ st = 5) (hC : rOK ln st (R, g) v w a nm) (hi : rm_i g a) (hn1 : gr_tk R = 1) (hadj : 0 < sg_lens g (sg_rules g) → sg_it g (sg_rules g) (sg_lens g (sg_rules g) - 1) < 100) (hl5 : sg_lens g (sg_rules g) < 5) (htk : gp_take R g = gp_jo (gm_o R g) (gm_s R g) 100) {z2 z4 : Option Value} {b3 : Int32} : sl_V YX12_readItem none 8 0 0 (fun r M' => r = none ∧ ∃ v' w' a' nm', M' = rf_S v' w' a' nm' M ∧ rIo ln (R, g) (stp f ln (R, g)) v a v' w' a' nm') 125 [some (.ref 68), some (.int (nI (sg_lens g (sg_rules g)))), z2, some (.int b3), z4] [.int (nI (100 + match gm_k g (gr_wd R) with
    | some k => k
    | none => if sg_names g < 6 then sg_names g else 0))] (match gm_k g (gr_wd R) with
    | some _ => rf_S v w a nm M
    | none => if sg_names g < 6 then rf_S (sl_u v 18 (nI (sg_names g + 1))) w a (sl_u nm (sg_names g) w) M else rf_S (sl_u (sl_u v 34 (nI 4)) 31 (nI 0)) w a nm M) := by
  have hC' := hC
  obtain ⟨ht, hg, hk, hs, he, hst⟩ := hC
  simp only at ht hg hk hs he hst
  have hw := ht.2.2.2.2.2.1 hn1
  have hok := hk.2.2.2.2.1
  have hr : sg_rules g < 12 := hk.2.2.2.2.2.2.1 (by omega) (by omega)
  obtain ⟨n1, n2, n3, n4, n5, n6, n7, n8⟩ := gm_nm (R := R) (g := g)
  obtain ⟨o1, o2, o3, o4⟩ := gm_ok (R := R) (g := g) hok
  have hgs : ∀ k, gm_o R g = some k → gsp 5 (gp_ai (gm_s R g).2 (100 + k)) := by
    intro k hk'
    have := o4 k hk'
    refine gsp_ai hs (by omega) (by omega) o2 n1 (Nat.le_of_eq n2.symm) n4 o3 n5 n6 (fun t _ => congrFun n3 t) (by rw [n2, n3]; exact hs.2.2.2.2.1) (fun r hr' => (hok.2.2.2.2.2.1 r (by omega)).2.2) ⟨fun q => by omega, fun _ => by rw [Nat.add_sub_cancel_left]; exact n8 k hk'⟩ (fun _ q => hadj q)
  unfold gm_o at htk hgs
  unfold gm_s at htk hgs o1
  cases hq : gm_k g (gr_wd R) with
  | some k =>
    rw [hq] at htk hgs
    simp only [gp_jo] at htk hgs
    exact rm_itemFin h27 hl hC' (fun _ _ => rfl) (fun _ _ => rfl) ht hg hi rfl rfl rfl rfl hok hl5 hr htk (hgs k rfl)
  | none =>
    rw [hq] at htk hgs o1
    simp only at htk hgs o1 ⊢
    by_cases h6 : sg_names g < 6
    · rw [if_pos h6, if_pos h6] at htk
      rw [if_pos h6] at o1
      have hgs' := hgs (sg_names g) (by rw [if_pos h6])
      rw [if_pos h6] at hgs'
      simp only [gp_jo] at htk
      rw [if_pos h6, if_pos h6]
      have hv : ∀ k, k ∉ [18, 19] → sl_u v 18 (nI (sg_names g + 1)) k = v k := fun k hk' => sl_u_ne (fun e => hk' (by rw [e]; decide))
      exact rm_itemFin h27 hl hC' hv (fun k hk' => rfl) (rm_t_v ht hv) (rm_g_gm hg hi hw).1 (rm_g_gm hg hi hw).2 rfl rfl rfl rfl o1 hl5 hr htk hgs'
    · rw [if_neg h6, if_neg h6] at htk
      simp only [gp_jo] at htk
      rw [if_neg h6, if_neg h6, show stp f ln (R, g) = (gr_fl 4 R, g) from stp_fl he htk]
      have hN := c_X12_nextB (v := sl_u (sl_u v 34 (nI 4)) 31 (nI 0)) (w := w) (a := a) (nm := nm) (M := M) (k := 4) (by omega) (by omega) rfl
      refine slv_istore (lv' := [_, _, _, _, _]) eX12_readItem_125 (by decide) rfl ?_
      refine slv_aload_n eX12_readItem_127 rfl ?_
      refine slv_rV (As := []) eX12_readItem_128 lX12_220 rfl rfl rf_68 rfl hN (by decide) (Nat.le_of_ble_eq_true rfl) ?_
      refine slv_aload_n eX12_readItem_131 rfl ?_
      refine slr_gi eX12_readItem_132 fX12_165 rfl (by repeat (first | exact sl_u_eq | assumption | apply rf_ne (by decide) | exact rfl)) ?_
      refine slv_if_neN eX12_readItem_135 (by omega) (fun h135 => ?_) (fun h135 => absurd h135 (by omega))
      refine slv_vret eX12_readItem_153 rfl ?_
      exact ⟨rfl, _, _, _, _, rfl, rIo_fl ht (by omega) (by omega)⟩
set_option maxRecDepth 100000 in
theorem rm_readItem (hS : st_all) {st : Nat} (h27 : a 27 = f) (hl : ln ≤ 900) (h45 : st = 4 ∨ st = 5) (hC : rOK ln st (R, g) v w a nm) (hi : rm_i g a) (hnd : st = 5 → gr_is R 7 = false) : sl_T YX12_readItem 8 0 0 (fun r M' => r = none ∧ ∃ v' w' a' nm', M' = rf_S v' w' a' nm' M ∧ rIo ln (R, g) (stp f ln (R, g)) v a v' w' a' nm') [.ref 68, .int (nI (sg_lens g (sg_rules g)))] (rf_S v w a nm M) := by
  have hC' := hC
  obtain ⟨ht, hg, hk, hs, he, hst⟩ := hC
  simp only at ht hg hk hs he hst
  have htk := hk.2.1
  have hok := hk.2.2.2.2.1
  have hsg : gr_sg R < 256 := hk.2.2.2.1
  have hr : sg_rules g < 12 := hk.2.2.2.2.2.2.1 (by omega) (by omega)
  have hlen := (hok.2.2.2.2.2.1 (sg_rules g) hr).2.2
  have h31 := ht.2.2.2.1
  have h34 := ht.1
  have hlt := tkm_lt htk
  have hH := rm_isHere (a := a) (nm := nm) (M := M) hS ht htk (j := 8) (by decide) (by decide)
  have hW := rm_isName (a := a) (nm := nm) (M := M) hS ht htk
  have h7 : (decide (gr_st R = 5) && gr_is R 7) = false := by
    rcases h45 with q | q
    · rw [decide_eq_false (by omega)]; rfl
    · rw [hnd q, Bool.and_false]
  have hta := take_45 (g := g) (hst ▸ h45)
  unfold gp_item at hta
  rw [h7, cond_false] at hta
  refine sl_T.of_V (lv := [_, _, _, _, _]) (by decide) rfl (Nat.le_of_ble_eq_true rfl) ?_
  cases hnw : gr_nw R with
  | true =>
    obtain ⟨k1, k7, k8⟩ := gr_nw_t hnw
    rw [hnw] at hW hta
    rw [k8] at hH
    rw [cond_true] at hta
    unfold gp_ni at hta
    have hNH := rm_nameHere (M := M) ht k1 hg hok.2.2.1
    have hm : (match gm_k g (gr_wd R) with
      | some k => k
      | none => if sg_names g < 6 then sg_names g else 0) < 6 ∨ (match gm_k g (gr_wd R) with
      | some k => k
      | none => if sg_names g < 6 then sg_names g else 0) = 0 := by
      cases hq : gm_k g (gr_wd R) with
      | some k =>
        obtain ⟨_, q1, _⟩ := sl_fn_lt _ 0 k hq
        have : sg_names g ≤ 6 := hok.2.2.1
        simp only
        omega
      | none =>
        simp only
        split <;> omega
    cases had : (decide (0 < sg_lens g (sg_rules g)) && sg_nm (sg_it g (sg_rules g) (sg_lens g (sg_rules g) - 1))) with
    | true =>
      rw [had, cond_true] at hta
      rw [Bool.and_eq_true] at had
      have hp := of_decide_eq_true had.1
      have hq : 100 ≤ sg_it g (sg_rules g) (sg_lens g (sg_rules g) - 1) := of_decide_eq_true had.2
      have hqi := hok.2.2.2.2.2.2.1 (5 * sg_rules g + (sg_lens g (sg_rules g) - 1)) (by omega)
      have hqi : sg_it g (sg_rules g) (sg_lens g (sg_rules g) - 1) < 106 := hqi
      have hI := c_X12_itemOf (v := v) (w := w) (a := a) (nm := nm) (M := M) hg.1 (k := sg_lens g (sg_rules g) - 1) (by omega)
      rw [hi _ (by omega)] at hI
      rw [show stp f ln (R, g) = (gr_fl 3 R, g) from stp_fl he hta]
      refine slv_aload_n eX12_readItem_0 rfl ?_
      refine slv_ldcS (tx := "value") 8 eX12_readItem_1 (by decide +kernel) ?_
      refine slv_rV (As := [_]) eX12_readItem_3 lX12_212 rfl rfl rf_68 rfl hH (by decide) (Nat.le_of_ble_eq_true rfl) ?_
      refine slv_istore_n (i := 2) (lv' := [_, _, _, _, _]) eX12_readItem_6 rfl (by decide) rfl ?_
      refine slv_aload_n eX12_readItem_7 rfl ?_
      refine slv_rV (As := []) eX12_readItem_8 lX12_264 rfl rfl rf_68 rfl hW (by decide) (Nat.le_of_ble_eq_true rfl) ?_
      refine slv_istore_n (i := 3) (lv' := [_, _, _, _, _]) eX12_readItem_11 rfl (by decide) rfl ?_
      refine slv_iload_n eX12_readItem_12 rfl ?_
      refine slv_if_neB eX12_readItem_13 (fun h13 => absurd h13 (by decide)) (fun h13 => ?_)
      refine slv_iload_n eX12_readItem_16 rfl ?_
      refine slv_if_neB eX12_readItem_17 (fun h17 => ?_) (fun h17 => absurd h17 (by decide))
      refine slv_aload_n eX12_readItem_33 rfl ?_
      refine slr_gi eX12_readItem_34 fX12_165 rfl (by repeat (first | exact sl_u_eq | assumption | apply rf_ne (by decide) | exact rfl)) ?_
      refine slv_if_ne eX12_readItem_37 (fun h37 => absurd rfl h37) (fun h37 => ?_)
      refine slv_iload_n eX12_readItem_40 rfl ?_
      refine slv_if_eqB eX12_readItem_41 (fun h41 => absurd h41 (by decide)) (fun h41 => ?_)
      refine slv_iload_n eX12_readItem_44 rfl ?_
      refine slv_if_leN eX12_readItem_45 (by omega) (fun h45 => absurd h45 (by omega)) (fun h45 => ?_)
      refine slv_iload_n eX12_readItem_48 rfl ?_
      refine slv_iconst (v := nI 5) eX12_readItem_49 (by decide) ?_
      refine slv_icmp_gtN eX12_readItem_50 (by omega) (by omega) (fun h50 => absurd h50 (by omega)) (fun h50 => ?_)
      refine slv_aload_n eX12_readItem_53 rfl ?_
      refine slv_iload_n eX12_readItem_54 rfl ?_
      refine slv_iconst (v := nI 1) eX12_readItem_55 (by decide) ?_
      refine slv_isubN eX12_readItem_56 (by omega) ?_
      refine slv_rV (As := [_]) eX12_readItem_57 lX12_284 rfl rfl rf_68 rfl hI (by decide) (Nat.le_of_ble_eq_true rfl) ?_
      refine slv_bipush (v := nI 100) eX12_readItem_60 (by decide) ?_
      refine slv_icmp_ltN eX12_readItem_62 (by omega) (by omega) (fun h62 => absurd h62 (by omega)) (fun h62 => ?_)
      refine slv_aload_n eX12_readItem_65 rfl ?_
      refine slv_iconst (v := nI 3) eX12_readItem_66 (by decide) ?_
      refine slv_rV (As := [_]) eX12_readItem_67 lX12_216 rfl rfl rf_68 rfl (c_X12_flaw h34 3) (by decide) (Nat.le_of_ble_eq_true rfl) ?_
      refine slv_aload_n eX12_readItem_70 rfl ?_
      refine slr_gi eX12_readItem_71 fX12_165 rfl (by repeat (first | exact sl_u_eq | assumption | apply rf_ne (by decide) | exact rfl)) ?_
      refine slv_if_neN eX12_readItem_74 (by omega) (fun h74 => ?_) (fun h74 => absurd h74 (by omega))
      refine slv_aload_n eX12_readItem_87 rfl ?_
      refine slr_gi eX12_readItem_88 fX12_165 rfl (by repeat (first | exact sl_u_eq | assumption | apply rf_ne (by decide) | exact rfl)) ?_
      refine slv_if_leN eX12_readItem_91 (by omega) (fun h91 => absurd h91 (by omega)) (fun h91 => ?_)
      refine slv_vret eX12_readItem_94 rfl ?_
      exact ⟨rfl, _, _, _, _, rfl, rIo_fl ht (by omega) (by omega)⟩
    | false =>
      rw [had, cond_false] at hta
      have hadj : 0 < sg_lens g (sg_rules g) → sg_it g (sg_rules g) (sg_lens g (sg_rules g) - 1) < 100 := by
        intro q
        rw [decide_eq_true q, Bool.true_and] at had
        have := of_decide_eq_false had
        omega
      have go : ∀ z4, sl_V YX12_readItem none 8 0 0 (fun r M' => r = none ∧ ∃ v' w' a' nm', M' = rf_S v' w' a' nm' M ∧ rIo ln (R, g) (stp f ln (R, g)) v a v' w' a' nm') 70 [some (.ref 68), some (.int (nI (sg_lens g (sg_rules g)))), some (.int (sl_bi false)), some (.int (sl_bi true)), z4] [] (rf_S v w a nm M) := by
        intro z4
        by_cases hl5 : sg_lens g (sg_rules g) < 5
        · rw [if_pos hl5] at hta
          refine slv_aload_n eX12_readItem_70 rfl ?_
          refine slr_gi eX12_readItem_71 fX12_165 rfl (by repeat (first | exact sl_u_eq | assumption | apply rf_ne (by decide) | exact rfl)) ?_
          refine slv_if_ne eX12_readItem_74 (fun h74 => absurd rfl h74) (fun h74 => ?_)
          refine slv_iload_n eX12_readItem_77 rfl ?_
          refine slv_iconst (v := nI 5) eX12_readItem_78 (by decide) ?_
          refine slv_icmp_neN eX12_readItem_79 (by omega) (by omega) (fun h79 => ?_) (fun h79 => absurd h79 (by omega))
          refine slv_aload_n eX12_readItem_87 rfl ?_
          refine slr_gi eX12_readItem_88 fX12_165 rfl (by repeat (first | exact sl_u_eq | assumption | apply rf_ne (by decide) | exact rfl)) ?_
          refine slv_if_leN eX12_readItem_91 (by omega) (fun h91 => ?_) (fun h91 => absurd h91 (by omega))
          refine slv_iload_n eX12_readItem_95 rfl ?_
          refine slv_if_eqB eX12_readItem_96 (fun h96 => absurd h96 (by decide)) (fun h96 => ?_)
          refine slv_bipush (v := nI 100) eX12_readItem_99 (by decide) ?_
          refine slv_aload_n eX12_readItem_101 rfl ?_
          refine slv_rV (As := []) eX12_readItem_102 lX12_267 rfl rfl rf_68 rfl hNH (by decide) (Nat.le_of_ble_eq_true rfl) ?_
          refine slv_iaddN eX12_readItem_105 ?_
          refine slv_goto eX12_readItem_106 ?_
          exact rm_itemN h27 hl h45 hC' hi k1 hadj hl5 hta
        · rw [if_neg hl5] at hta
          rw [show stp f ln (R, g) = (gr_fl 4 R, g) from stp_fl he hta]
          refine slv_aload_n eX12_readItem_70 rfl ?_
          refine slr_gi eX12_readItem_71 fX12_165 rfl (by repeat (first | exact sl_u_eq | assumption | apply rf_ne (by decide) | exact rfl)) ?_
          refine slv_if_ne eX12_readItem_74 (fun h74 => absurd rfl h74) (fun h74 => ?_)
          refine slv_iload_n eX12_readItem_77 rfl ?_
          refine slv_iconst (v := nI 5) eX12_readItem_78 (by decide) ?_
          refine slv_icmp_neN eX12_readItem_79 (by omega) (by omega) (fun h79 => absurd h79 (by omega)) (fun h79 => ?_)
          refine slv_aload_n eX12_readItem_82 rfl ?_
          refine slv_iconst (v := nI 4) eX12_readItem_83 (by decide) ?_
          refine slv_rV (As := [_]) eX12_readItem_84 lX12_216 rfl rfl rf_68 rfl (c_X12_flaw h34 4) (by decide) (Nat.le_of_ble_eq_true rfl) ?_
          refine slv_aload_n eX12_readItem_87 rfl ?_
          refine slr_gi eX12_readItem_88 fX12_165 rfl (by repeat (first | exact sl_u_eq | assumption | apply rf_ne (by decide) | exact rfl)) ?_
          refine slv_if_leN eX12_readItem_91 (by omega) (fun h91 => absurd h91 (by omega)) (fun h91 => ?_)
          refine slv_vret eX12_readItem_94 rfl ?_
          exact ⟨rfl, _, _, _, _, rfl, rIo_fl ht (by omega) (by omega)⟩
      by_cases hp : 0 < sg_lens g (sg_rules g)
      · have hq := hadj hp
        have hI := c_X12_itemOf (v := v) (w := w) (a := a) (nm := nm) (M := M) hg.1 (k := sg_lens g (sg_rules g) - 1) (by omega)
        rw [hi _ (by omega)] at hI
        refine slv_aload_n eX12_readItem_0 rfl ?_
        refine slv_ldcS (tx := "value") 8 eX12_readItem_1 (by decide +kernel) ?_
        refine slv_rV (As := [_]) eX12_readItem_3 lX12_212 rfl rfl rf_68 rfl hH (by decide) (Nat.le_of_ble_eq_true rfl) ?_
        refine slv_istore_n (i := 2) (lv' := [_, _, _, _, _]) eX12_readItem_6 rfl (by decide) rfl ?_
        refine slv_aload_n eX12_readItem_7 rfl ?_
        refine slv_rV (As := []) eX12_readItem_8 lX12_264 rfl rfl rf_68 rfl hW (by decide) (Nat.le_of_ble_eq_true rfl) ?_
        refine slv_istore_n (i := 3) (lv' := [_, _, _, _, _]) eX12_readItem_11 rfl (by decide) rfl ?_
        refine slv_iload_n eX12_readItem_12 rfl ?_
        refine slv_if_neB eX12_readItem_13 (fun h13 => absurd h13 (by decide)) (fun h13 => ?_)
        refine slv_iload_n eX12_readItem_16 rfl ?_
        refine slv_if_neB eX12_readItem_17 (fun h17 => ?_) (fun h17 => absurd h17 (by decide))
        refine slv_aload_n eX12_readItem_33 rfl ?_
        refine slr_gi eX12_readItem_34 fX12_165 rfl (by repeat (first | exact sl_u_eq | assumption | apply rf_ne (by decide) | exact rfl)) ?_
        refine slv_if_ne eX12_readItem_37 (fun h37 => absurd rfl h37) (fun h37 => ?_)
        refine slv_iload_n eX12_readItem_40 rfl ?_
        refine slv_if_eqB eX12_readItem_41 (fun h41 => absurd h41 (by decide)) (fun h41 => ?_)
        refine slv_iload_n eX12_readItem_44 rfl ?_
        refine slv_if_leN eX12_readItem_45 (by omega) (fun h45 => absurd h45 (by omega)) (fun h45 => ?_)
        refine slv_iload_n eX12_readItem_48 rfl ?_
        refine slv_iconst (v := nI 5) eX12_readItem_49 (by decide) ?_
        refine slv_icmp_gtN eX12_readItem_50 (by omega) (by omega) (fun h50 => absurd h50 (by omega)) (fun h50 => ?_)
        refine slv_aload_n eX12_readItem_53 rfl ?_
        refine slv_iload_n eX12_readItem_54 rfl ?_
        refine slv_iconst (v := nI 1) eX12_readItem_55 (by decide) ?_
        refine slv_isubN eX12_readItem_56 (by omega) ?_
        refine slv_rV (As := [_]) eX12_readItem_57 lX12_284 rfl rfl rf_68 rfl hI (by decide) (Nat.le_of_ble_eq_true rfl) ?_
        refine slv_bipush (v := nI 100) eX12_readItem_60 (by decide) ?_
        refine slv_icmp_ltN eX12_readItem_62 (by omega) (by omega) (fun h62 => ?_) (fun h62 => absurd h62 (by omega))
        exact go _
      · refine slv_aload_n eX12_readItem_0 rfl ?_
        refine slv_ldcS (tx := "value") 8 eX12_readItem_1 (by decide +kernel) ?_
        refine slv_rV (As := [_]) eX12_readItem_3 lX12_212 rfl rfl rf_68 rfl hH (by decide) (Nat.le_of_ble_eq_true rfl) ?_
        refine slv_istore_n (i := 2) (lv' := [_, _, _, _, _]) eX12_readItem_6 rfl (by decide) rfl ?_
        refine slv_aload_n eX12_readItem_7 rfl ?_
        refine slv_rV (As := []) eX12_readItem_8 lX12_264 rfl rfl rf_68 rfl hW (by decide) (Nat.le_of_ble_eq_true rfl) ?_
        refine slv_istore_n (i := 3) (lv' := [_, _, _, _, _]) eX12_readItem_11 rfl (by decide) rfl ?_
        refine slv_iload_n eX12_readItem_12 rfl ?_
        refine slv_if_neB eX12_readItem_13 (fun h13 => absurd h13 (by decide)) (fun h13 => ?_)
        refine slv_iload_n eX12_readItem_16 rfl ?_
        refine slv_if_neB eX12_readItem_17 (fun h17 => ?_) (fun h17 => absurd h17 (by decide))
        refine slv_aload_n eX12_readItem_33 rfl ?_
        refine slr_gi eX12_readItem_34 fX12_165 rfl (by repeat (first | exact sl_u_eq | assumption | apply rf_ne (by decide) | exact rfl)) ?_
        refine slv_if_ne eX12_readItem_37 (fun h37 => absurd rfl h37) (fun h37 => ?_)
        refine slv_iload_n eX12_readItem_40 rfl ?_
        refine slv_if_eqB eX12_readItem_41 (fun h41 => absurd h41 (by decide)) (fun h41 => ?_)
        refine slv_iload_n eX12_readItem_44 rfl ?_
        refine slv_if_leN eX12_readItem_45 (by omega) (fun h45 => ?_) (fun h45 => absurd h45 (by omega))
        exact go _
  | false =>
    rw [hnw] at hW hta
    rw [cond_false] at hta
    have goT : ∀ (x : Nat) (b : Bool) (z4 : Option Value), x < 256 → (b = true → x = 0) → (b = false → v 33 = nI x) → gp_take R g = gp_ti R g x → sl_V YX12_readItem none 8 0 0 (fun r M' => r = none ∧ ∃ v' w' a' nm', M' = rf_S v' w' a' nm' M ∧ rIo ln (R, g) (stp f ln (R, g)) v a v' w' a' nm') 70 [some (.ref 68), some (.int (nI (sg_lens g (sg_rules g)))), some (.int (sl_bi b)), some (.int (sl_bi false)), z4] [] (rf_S v w a nm M) := by
      intro x b z4 hx hb1 hb2 hta
      have hSH := rm_signHere (w := w) (M := M) h34 hg hok hx
      by_cases hl5 : sg_lens g (sg_rules g) < 5
      · cases b with
        | true =>
          have := hb1 rfl
          subst this
          refine slv_aload_n eX12_readItem_70 rfl ?_
          refine slr_gi eX12_readItem_71 fX12_165 rfl (by repeat (first | exact sl_u_eq | assumption | apply rf_ne (by decide) | exact rfl)) ?_
          refine slv_if_ne eX12_readItem_74 (fun h74 => absurd rfl h74) (fun h74 => ?_)
          refine slv_iload_n eX12_readItem_77 rfl ?_
          refine slv_iconst (v := nI 5) eX12_readItem_78 (by decide) ?_
          refine slv_icmp_neN eX12_readItem_79 (by omega) (by omega) (fun h79 => ?_) (fun h79 => absurd h79 (by omega))
          refine slv_aload_n eX12_readItem_87 rfl ?_
          refine slr_gi eX12_readItem_88 fX12_165 rfl (by repeat (first | exact sl_u_eq | assumption | apply rf_ne (by decide) | exact rfl)) ?_
          refine slv_if_leN eX12_readItem_91 (by omega) (fun h91 => ?_) (fun h91 => absurd h91 (by omega))
          refine slv_iload_n eX12_readItem_95 rfl ?_
          refine slv_if_eqB eX12_readItem_96 (fun h96 => ?_) (fun h96 => absurd h96 (by decide))
          refine slv_aload_n eX12_readItem_109 rfl ?_
          refine slv_iload_n eX12_readItem_110 rfl ?_
          refine slv_if_eqB eX12_readItem_111 (fun h111 => absurd h111 (by decide)) (fun h111 => ?_)
          refine slv_iconst (v := nI 0) eX12_readItem_114 (by decide) ?_
          refine slv_goto eX12_readItem_115 ?_
          refine slv_rV (As := [_]) eX12_readItem_122 lX12_287 rfl rfl rf_68 rfl hSH (by decide) (Nat.le_of_ble_eq_true rfl) ?_
          exact rm_itemT h27 hl h45 hC' hi hx hl5 hta
        | false =>
          have h33 := hb2 rfl
          refine slv_aload_n eX12_readItem_70 rfl ?_
          refine slr_gi eX12_readItem_71 fX12_165 rfl (by repeat (first | exact sl_u_eq | assumption | apply rf_ne (by decide) | exact rfl)) ?_
          refine slv_if_ne eX12_readItem_74 (fun h74 => absurd rfl h74) (fun h74 => ?_)
          refine slv_iload_n eX12_readItem_77 rfl ?_
          refine slv_iconst (v := nI 5) eX12_readItem_78 (by decide) ?_
          refine slv_icmp_neN eX12_readItem_79 (by omega) (by omega) (fun h79 => ?_) (fun h79 => absurd h79 (by omega))
          refine slv_aload_n eX12_readItem_87 rfl ?_
          refine slr_gi eX12_readItem_88 fX12_165 rfl (by repeat (first | exact sl_u_eq | assumption | apply rf_ne (by decide) | exact rfl)) ?_
          refine slv_if_leN eX12_readItem_91 (by omega) (fun h91 => ?_) (fun h91 => absurd h91 (by omega))
          refine slv_iload_n eX12_readItem_95 rfl ?_
          refine slv_if_eqB eX12_readItem_96 (fun h96 => ?_) (fun h96 => absurd h96 (by decide))
          refine slv_aload_n eX12_readItem_109 rfl ?_
          refine slv_iload_n eX12_readItem_110 rfl ?_
          refine slv_if_eqB eX12_readItem_111 (fun h111 => ?_) (fun h111 => absurd h111 (by decide))
          refine slv_aload_n eX12_readItem_118 rfl ?_
          refine slr_gi eX12_readItem_119 fX12_191 rfl (by repeat (first | exact sl_u_eq | assumption | apply rf_ne (by decide) | exact rfl)) ?_
          refine slv_rV (As := [_]) eX12_readItem_122 lX12_287 rfl rfl rf_68 rfl hSH (by decide) (Nat.le_of_ble_eq_true rfl) ?_
          exact rm_itemT h27 hl h45 hC' hi hx hl5 hta
      · unfold gp_ti at hta
        rw [if_neg hl5] at hta
        rw [show stp f ln (R, g) = (gr_fl 4 R, g) from stp_fl he hta]
        refine slv_aload_n eX12_readItem_70 rfl ?_
        refine slr_gi eX12_readItem_71 fX12_165 rfl (by repeat (first | exact sl_u_eq | assumption | apply rf_ne (by decide) | exact rfl)) ?_
        refine slv_if_ne eX12_readItem_74 (fun h74 => absurd rfl h74) (fun h74 => ?_)
        refine slv_iload_n eX12_readItem_77 rfl ?_
        refine slv_iconst (v := nI 5) eX12_readItem_78 (by decide) ?_
        refine slv_icmp_neN eX12_readItem_79 (by omega) (by omega) (fun h79 => absurd h79 (by omega)) (fun h79 => ?_)
        refine slv_aload_n eX12_readItem_82 rfl ?_
        refine slv_iconst (v := nI 4) eX12_readItem_83 (by decide) ?_
        refine slv_rV (As := [_]) eX12_readItem_84 lX12_216 rfl rfl rf_68 rfl (c_X12_flaw h34 4) (by decide) (Nat.le_of_ble_eq_true rfl) ?_
        refine slv_aload_n eX12_readItem_87 rfl ?_
        refine slr_gi eX12_readItem_88 fX12_165 rfl (by repeat (first | exact sl_u_eq | assumption | apply rf_ne (by decide) | exact rfl)) ?_
        refine slv_if_leN eX12_readItem_91 (by omega) (fun h91 => absurd h91 (by omega)) (fun h91 => ?_)
        refine slv_vret eX12_readItem_94 rfl ?_
        exact ⟨rfl, _, _, _, _, rfl, rIo_fl ht (by omega) (by omega)⟩
    by_cases h2 : gr_tk R = 2
    · rw [if_pos h2] at hta
      rw [gr_is_f (by omega)] at hH
      have h3 := (tkm_3 htk).mpr h2
      have hsv := ht.2.2.2.2.2.2 h2
      refine slv_aload_n eX12_readItem_0 rfl ?_
      refine slv_ldcS (tx := "value") 8 eX12_readItem_1 (by decide +kernel) ?_
      refine slv_rV (As := [_]) eX12_readItem_3 lX12_212 rfl rfl rf_68 rfl hH (by decide) (Nat.le_of_ble_eq_true rfl) ?_
      refine slv_istore_n (i := 2) (lv' := [_, _, _, _, _]) eX12_readItem_6 rfl (by decide) rfl ?_
      refine slv_aload_n eX12_readItem_7 rfl ?_
      refine slv_rV (As := []) eX12_readItem_8 lX12_264 rfl rfl rf_68 rfl hW (by decide) (Nat.le_of_ble_eq_true rfl) ?_
      refine slv_istore_n (i := 3) (lv' := [_, _, _, _, _]) eX12_readItem_11 rfl (by decide) rfl ?_
      refine slv_iload_n eX12_readItem_12 rfl ?_
      refine slv_if_neB eX12_readItem_13 (fun h13 => absurd h13 (by decide)) (fun h13 => ?_)
      refine slv_iload_n eX12_readItem_16 rfl ?_
      refine slv_if_neB eX12_readItem_17 (fun h17 => absurd h17 (by decide)) (fun h17 => ?_)
      refine slv_aload_n eX12_readItem_20 rfl ?_
      refine slr_gi eX12_readItem_21 fX12_177 rfl (by repeat (first | exact sl_u_eq | assumption | apply rf_ne (by decide) | exact rfl)) ?_
      refine slv_iconst (v := nI 3) eX12_readItem_24 (by decide) ?_
      refine slv_icmp_eqN eX12_readItem_25 (by omega) (by omega) (fun h25 => ?_) (fun h25 => absurd h25 (fun q => q h3))
      refine slv_aload_n eX12_readItem_33 rfl ?_
      refine slr_gi eX12_readItem_34 fX12_165 rfl (by repeat (first | exact sl_u_eq | assumption | apply rf_ne (by decide) | exact rfl)) ?_
      refine slv_if_ne eX12_readItem_37 (fun h37 => absurd rfl h37) (fun h37 => ?_)
      refine slv_iload_n eX12_readItem_40 rfl ?_
      refine slv_if_eqB eX12_readItem_41 (fun h41 => ?_) (fun h41 => absurd h41 (by decide))
      exact goT (gr_sg R) false _ hsg (fun q => by cases q) (fun _ => hsv) hta
    · rw [if_neg h2] at hta
      have h3 : ¬ tkm (gr_tk R) = 3 := fun q => h2 ((tkm_3 htk).mp q)
      cases h8 : gr_is R 8 with
      | true =>
        rw [h8] at hta hH
        rw [cond_true] at hta
        refine slv_aload_n eX12_readItem_0 rfl ?_
        refine slv_ldcS (tx := "value") 8 eX12_readItem_1 (by decide +kernel) ?_
        refine slv_rV (As := [_]) eX12_readItem_3 lX12_212 rfl rfl rf_68 rfl hH (by decide) (Nat.le_of_ble_eq_true rfl) ?_
        refine slv_istore_n (i := 2) (lv' := [_, _, _, _, _]) eX12_readItem_6 rfl (by decide) rfl ?_
        refine slv_aload_n eX12_readItem_7 rfl ?_
        refine slv_rV (As := []) eX12_readItem_8 lX12_264 rfl rfl rf_68 rfl hW (by decide) (Nat.le_of_ble_eq_true rfl) ?_
        refine slv_istore_n (i := 3) (lv' := [_, _, _, _, _]) eX12_readItem_11 rfl (by decide) rfl ?_
        refine slv_iload_n eX12_readItem_12 rfl ?_
        refine slv_if_neB eX12_readItem_13 (fun h13 => ?_) (fun h13 => absurd h13 (by decide))
        refine slv_aload_n eX12_readItem_33 rfl ?_
        refine slr_gi eX12_readItem_34 fX12_165 rfl (by repeat (first | exact sl_u_eq | assumption | apply rf_ne (by decide) | exact rfl)) ?_
        refine slv_if_ne eX12_readItem_37 (fun h37 => absurd rfl h37) (fun h37 => ?_)
        refine slv_iload_n eX12_readItem_40 rfl ?_
        refine slv_if_eqB eX12_readItem_41 (fun h41 => ?_) (fun h41 => absurd h41 (by decide))
        exact goT 0 true _ (by omega) (fun _ => rfl) (fun q => by cases q) hta
      | false =>
        rw [h8] at hta hH
        rw [cond_false] at hta
        rw [show stp f ln (R, g) = (gr_fl 1 R, g) from stp_fl he hta]
        refine slv_aload_n eX12_readItem_0 rfl ?_
        refine slv_ldcS (tx := "value") 8 eX12_readItem_1 (by decide +kernel) ?_
        refine slv_rV (As := [_]) eX12_readItem_3 lX12_212 rfl rfl rf_68 rfl hH (by decide) (Nat.le_of_ble_eq_true rfl) ?_
        refine slv_istore_n (i := 2) (lv' := [_, _, _, _, _]) eX12_readItem_6 rfl (by decide) rfl ?_
        refine slv_aload_n eX12_readItem_7 rfl ?_
        refine slv_rV (As := []) eX12_readItem_8 lX12_264 rfl rfl rf_68 rfl hW (by decide) (Nat.le_of_ble_eq_true rfl) ?_
        refine slv_istore_n (i := 3) (lv' := [_, _, _, _, _]) eX12_readItem_11 rfl (by decide) rfl ?_
        refine slv_iload_n eX12_readItem_12 rfl ?_
        refine slv_if_neB eX12_readItem_13 (fun h13 => absurd h13 (by decide)) (fun h13 => ?_)
        refine slv_iload_n eX12_readItem_16 rfl ?_
        refine slv_if_neB eX12_readItem_17 (fun h17 => absurd h17 (by decide)) (fun h17 => ?_)
        refine slv_aload_n eX12_readItem_20 rfl ?_
        refine slr_gi eX12_readItem_21 fX12_177 rfl (by repeat (first | exact sl_u_eq | assumption | apply rf_ne (by decide) | exact rfl)) ?_
        refine slv_iconst (v := nI 3) eX12_readItem_24 (by decide) ?_
        refine slv_icmp_eqN eX12_readItem_25 (by omega) (by omega) (fun h25 => absurd h25 h3) (fun h25 => ?_)
        refine slv_aload_n eX12_readItem_28 rfl ?_
        refine slv_iconst (v := nI 1) eX12_readItem_29 (by decide) ?_
        refine slv_rV (As := [_]) eX12_readItem_30 lX12_216 rfl rfl rf_68 rfl (c_X12_flaw h34 1) (by decide) (Nat.le_of_ble_eq_true rfl) ?_
        refine slv_aload_n eX12_readItem_33 rfl ?_
        refine slr_gi eX12_readItem_34 fX12_165 rfl (by repeat (first | exact sl_u_eq | assumption | apply rf_ne (by decide) | exact rfl)) ?_
        refine slv_if_neN eX12_readItem_37 (by omega) (fun h37 => ?_) (fun h37 => absurd h37 (by omega))
        refine slv_aload_n eX12_readItem_70 rfl ?_
        refine slr_gi eX12_readItem_71 fX12_165 rfl (by repeat (first | exact sl_u_eq | assumption | apply rf_ne (by decide) | exact rfl)) ?_
        refine slv_if_neN eX12_readItem_74 (by omega) (fun h74 => ?_) (fun h74 => absurd h74 (by omega))
        refine slv_aload_n eX12_readItem_87 rfl ?_
        refine slr_gi eX12_readItem_88 fX12_165 rfl (by repeat (first | exact sl_u_eq | assumption | apply rf_ne (by decide) | exact rfl)) ?_
        refine slv_if_leN eX12_readItem_91 (by omega) (fun h91 => absurd h91 (by omega)) (fun h91 => ?_)
        refine slv_vret eX12_readItem_94 rfl ?_
        exact ⟨rfl, _, _, _, _, rfl, rIo_fl ht (by omega) (by omega)⟩
end RIV
