/-! the reference's stack -/
/-- the reference reads as the class does -/
def rdR (E : rx_T) (S : rd_T) (v : Nat → Int32) (a : Nat → Nat → Int32) : Prop :=
  (v 61 = nI (rd_tp S) ∧ v 64 = nI (rd_sp S) ∧ v 65 = nI (nd_c (rd_nd S)) ∧ v 66 = nI (rd_mo S)) ∧
  (∀ i, i ≤ rd_tp S → a 54 i = nI (rd_stk S i) ∧ a 58 i = sl_bi (rd_beh S i).isSome ∧ ∀ k, rd_beh S i = some k → a 55 i = nd_bi (rd_nd S) k ∧ a 59 i = sl_bi (nd_rl (rd_nd S) k) ∧ a 70 i = nI k) ∧
  (∀ i, 1 ≤ i → i ≤ rd_tp S → rx_sg E (rd_tok S i) = 0 → a 56 i = rx_bt E (rd_tok S i) ∧ a 60 i = sl_bi (rx_rl E (rd_tok S i))) ∧
  ∀ k, k < nd_c (rd_nd S) → a 57 k = nI (nd_ru (rd_nd S) k) ∧ a 71 k = sl_nd (nd_fi (rd_nd S) k) ∧ a 72 k = sl_nd (nd_se (rd_nd S) k) ∧ a 73 k = nI (nd_de (rd_nd S) k) ∧ a 74 k = nd_bi (rd_nd S) k ∧ a 75 k = sl_bi (nd_rl (rd_nd S) k)
/-- the tokens, as the class has them -/
def rtk (E : rx_T) (a : Nat → Nat → Int32) : Prop := (∀ j, j < rx_tc E → a 47 j = nI (rx_pl E j) ∧ a 46 j = sl_io (gt_k (rx_g E) (rx_sg E j)) ∧ (rx_sg E j = 0 → a 48 j = rx_bt E j ∧ a 49 j = sl_bi (rx_rl E j))) ∧ a 46 (rx_tc E) = nI (sg_terms (rx_g E)) ∧ a 47 (rx_tc E) = nI (rx_ln E)
section RST
variable {v : Nat → Int32} {w : Int64} {a : Nat → Nat → Int32} {nm : Nat → Int64} {M : sl_M} {E : rx_T} {S : rd_T}
set_option maxRecDepth 100000 in
theorem c_X12_stacks (hR : rdR E S v a) (hT : rtk E a) (htc : rx_tc E ≤ 60) (hnx : rd_nx S < rx_tc E) {y : Nat} (hy : gt_k (rx_g E) (rx_sg E (rd_nx S)) = some y) (htp : rd_tp S ≤ 15) (hmo : rd_mo S ≤ 15) (hsp : rd_sp S < 1000) : sl_T YX12_stacks 0 0 0 (fun r M' => if rd_tp S < 15 then r = some (.int (sl_bi true)) ∧ ∃ v' a', M' = rf_S v' w a' nm M ∧ rdR E (rd_push E y S) v' a' ∧ (∀ k, k ∉ [61, 64, 66] → v' k = v k) ∧ (∀ k, k ∉ [54, 56, 60, 58] → a' k = a k) else r = some (.int (sl_bi false)) ∧ M' = rf_S (sl_u v 62 (nI 7)) w a nm M) [.ref 68, .int (nI (rd_nx S))] (rf_S v w a nm M) := by
  obtain ⟨⟨r1, r2, r3, r4⟩, r5, r6, r7⟩ := hR
  obtain ⟨t1, t2, t3⟩ := hT
  obtain ⟨p1, p2, p3⟩ := t1 (rd_nx S) hnx
  rw [hy] at p2
  refine sl_T.of_V (lv := [_, _]) (by decide) rfl (Nat.le_of_ble_eq_true rfl) ?_
  by_cases h15 : rd_tp S < 15
  · simp only [h15, if_true]
    have hP : rd_push E y S = ((rd_fa S, rd_pl S, rd_sp S + 1, max (rd_mo S) (rd_tp S + 1), rd_nx S + 1, rd_en S, rd_tp S + 1), (sl_u (rd_stk S) (rd_tp S + 1) y, sl_u (rd_tok S) (rd_tp S + 1) (rd_nx S), sl_u (rd_beh S) (rd_tp S + 1) none), S.2.2) := by unfold rd_push; rw [if_pos h15]
    rw [hP]
    have fin : ∀ (v' : Nat → Int32) (X : Int32), v' 61 = nI (rd_tp S + 1) → v' 64 = nI (rd_sp S + 1) → v' 66 = nI (max (rd_mo S) (rd_tp S + 1)) → (∀ k, k ∉ [61, 64, 66] → v' k = v k) → (∀ b, a 49 (rd_nx S) = sl_bi b → X = sl_bi b) → rdR E ((rd_fa S, rd_pl S, rd_sp S + 1, max (rd_mo S) (rd_tp S + 1), rd_nx S + 1, rd_en S, rd_tp S + 1), (sl_u (rd_stk S) (rd_tp S + 1) y, sl_u (rd_tok S) (rd_tp S + 1) (rd_nx S), sl_u (rd_beh S) (rd_tp S + 1) none), S.2.2) v' (sl_u (sl_u (sl_u (sl_u a 54 (sl_u (a 54) (rd_tp S + 1) (nI y))) 56 (sl_u (a 56) (rd_tp S + 1) (a 48 (rd_nx S)))) 60 (sl_u (a 60) (rd_tp S + 1) X)) 58 (sl_u (a 58) (rd_tp S + 1) (sl_bi false))) := by
      intro v' X e1 e2 e3 e4 e5
      refine ⟨⟨e1, e2, (e4 _ (by decide)).trans r3, e3⟩, fun i hi => ?_, fun i h1 hi h0 => ?_, r7⟩
      · have hi' : i ≤ rd_tp S + 1 := hi
        show sl_u (a 54) (rd_tp S + 1) (nI y) i = nI (sl_u (rd_stk S) (rd_tp S + 1) y i) ∧ sl_u (a 58) (rd_tp S + 1) (sl_bi false) i = sl_bi (sl_u (rd_beh S) (rd_tp S + 1) none i).isSome ∧ ∀ k, sl_u (rd_beh S) (rd_tp S + 1) none i = some k → a 55 i = nd_bi (rd_nd S) k ∧ a 59 i = sl_bi (nd_rl (rd_nd S) k) ∧ a 70 i = nI k
        by_cases e : i = rd_tp S + 1
        · rw [e, sl_u_eq, sl_u_eq, sl_u_eq, sl_u_eq]
          exact ⟨rfl, rfl, fun k q => by cases q⟩
        · rw [sl_u_ne e, sl_u_ne e, sl_u_ne e, sl_u_ne e]
          exact r5 i (by omega)
      · have hi' : i ≤ rd_tp S + 1 := hi
        have h0' : rx_sg E (sl_u (rd_tok S) (rd_tp S + 1) (rd_nx S) i) = 0 := h0
        show sl_u (a 56) (rd_tp S + 1) (a 48 (rd_nx S)) i = rx_bt E (sl_u (rd_tok S) (rd_tp S + 1) (rd_nx S) i) ∧ sl_u (a 60) (rd_tp S + 1) X i = sl_bi (rx_rl E (sl_u (rd_tok S) (rd_tp S + 1) (rd_nx S) i))
        by_cases e : i = rd_tp S + 1
        · rw [e, sl_u_eq] at h0'
          rw [e, sl_u_eq, sl_u_eq, sl_u_eq]
          exact ⟨(p3 h0').1, e5 _ (p3 h0').2⟩
        · rw [sl_u_ne e] at h0'
          rw [sl_u_ne e, sl_u_ne e, sl_u_ne e]
          exact r6 i h1 (by omega) h0'
    have fra : ∀ X k, k ∉ [54, 56, 60, 58] → (sl_u (sl_u (sl_u (sl_u a 54 (sl_u (a 54) (rd_tp S + 1) (nI y))) 56 (sl_u (a 56) (rd_tp S + 1) (a 48 (rd_nx S)))) 60 (sl_u (a 60) (rd_tp S + 1) X)) 58 (sl_u (a 58) (rd_tp S + 1) (sl_bi false))) k = a k := fun X k hk => by
      rw [sl_u_ne (fun e => hk (by rw [e]; decide)), sl_u_ne (fun e => hk (by rw [e]; decide)), sl_u_ne (fun e => hk (by rw [e]; decide)), sl_u_ne (fun e => hk (by rw [e]; decide))]
    have frv : ∀ x k, k ∉ [61, 64, 66] → (sl_u (sl_u (sl_u v 61 (nI (rd_tp S + 1))) 64 (nI (rd_sp S + 1))) 66 x) k = v k := fun x k hk => by
      rw [sl_u_ne (fun e => hk (by rw [e]; decide)), sl_u_ne (fun e => hk (by rw [e]; decide)), sl_u_ne (fun e => hk (by rw [e]; decide))]
    have frv2 : ∀ k, k ∉ [61, 64, 66] → (sl_u (sl_u v 61 (nI (rd_tp S + 1))) 64 (nI (rd_sp S + 1))) k = v k := fun k hk => by
      rw [sl_u_ne (fun e => hk (by rw [e]; decide)), sl_u_ne (fun e => hk (by rw [e]; decide))]
    have hnar : ∀ b, a 49 (rd_nx S) = sl_bi b → vp_nar .boolean (a 49 (rd_nx S)) = sl_bi b := fun b q => by rw [q]; exact sl_nar_bi b
    by_cases hm : rd_tp S + 1 ≤ rd_mo S
    · refine slv_aload_n eX12_stacks_0 rfl ?_
      refine slr_gi eX12_stacks_1 fX12_438 rfl (by repeat (first | exact sl_u_eq | assumption | apply rf_ne (by decide) | exact rfl)) ?_
      refine slv_bipush (v := nI 15) eX12_stacks_4 (by decide) ?_
      refine slv_icmp_neN eX12_stacks_6 (by omega) (by omega) (fun h6 => ?_) (fun h6 => absurd h6 (by omega))
      refine slv_aload_n eX12_stacks_17 rfl ?_
      refine slv_dup eX12_stacks_18 rfl ?_
      refine slr_gi eX12_stacks_19 fX12_438 rfl (by repeat (first | exact sl_u_eq | assumption | apply rf_ne (by decide) | exact rfl)) ?_
      refine slv_iconst (v := nI 1) eX12_stacks_22 (by decide) ?_
      refine slv_iaddN eX12_stacks_23 ?_
      refine slr_pi eX12_stacks_24 fX12_438 (Nat.le_of_ble_eq_true rfl) rf_s61 ?_
      refine slv_aload_n eX12_stacks_27 rfl ?_
      refine slr_ga (p := 96) eX12_stacks_28 fX12_98 rfl ?_
      refine slv_aload_n eX12_stacks_31 rfl ?_
      refine slr_gi eX12_stacks_32 fX12_438 rfl (by repeat (first | exact sl_u_eq | assumption | apply rf_ne (by decide) | exact rfl)) ?_
      refine slv_aload_n eX12_stacks_35 rfl ?_
      refine slr_ga (p := 92) eX12_stacks_36 fX12_86 rfl ?_
      refine slv_iload_n eX12_stacks_39 rfl ?_
      refine slr_ialdX (k := 46) (p := 92) (len := 61) eX12_stacks_40 rfl (by repeat (first | exact sl_u_eq | assumption | apply rf_ne (by decide) | exact rfl)) (by omega) (by decide) p2 ?_
      refine slr_iastX (k := 54) (p := 96) (len := 16) eX12_stacks_41 rfl (by repeat (first | exact sl_u_eq | assumption | apply rf_ne (by decide) | exact rfl)) (by omega) (by decide) (rf_t54 _ _ _ _ _) ?_
      refine slv_aload_n eX12_stacks_42 rfl ?_
      refine slr_ga (p := 98) eX12_stacks_43 fX12_104 rfl ?_
      refine slv_aload_n eX12_stacks_46 rfl ?_
      refine slr_gi eX12_stacks_47 fX12_438 rfl (by repeat (first | exact sl_u_eq | assumption | apply rf_ne (by decide) | exact rfl)) ?_
      refine slv_aload_n eX12_stacks_50 rfl ?_
      refine slr_ga (p := 94) eX12_stacks_51 fX12_92 rfl ?_
      refine slv_iload_n eX12_stacks_54 rfl ?_
      refine slr_ialdX (k := 48) (p := 94) (len := 61) eX12_stacks_55 rfl (by repeat (first | exact sl_u_eq | assumption | apply rf_ne (by decide) | exact rfl)) (by omega) (by decide) rfl ?_
      refine slr_iastX (k := 56) (p := 98) (len := 16) eX12_stacks_56 rfl (by repeat (first | exact sl_u_eq | assumption | apply rf_ne (by decide) | exact rfl)) (by omega) (by decide) (rf_t56 _ _ _ _ _) ?_
      refine slv_aload_n eX12_stacks_57 rfl ?_
      refine slr_ga (p := 102) eX12_stacks_58 fX12_116 rfl ?_
      refine slv_aload_n eX12_stacks_61 rfl ?_
      refine slr_gi eX12_stacks_62 fX12_438 rfl (by repeat (first | exact sl_u_eq | assumption | apply rf_ne (by decide) | exact rfl)) ?_
      refine slv_aload_n eX12_stacks_65 rfl ?_
      refine slr_ga (p := 95) eX12_stacks_66 fX12_95 rfl ?_
      refine slv_iload_n eX12_stacks_69 rfl ?_
      refine slr_zaldX (k := 49) (p := 95) (len := 61) eX12_stacks_70 rfl (by repeat (first | exact sl_u_eq | assumption | apply rf_ne (by decide) | exact rfl)) (by omega) (by decide) rfl ?_
      refine slr_zastX (k := 60) (p := 102) (len := 16) eX12_stacks_71 rfl (by repeat (first | exact sl_u_eq | assumption | apply rf_ne (by decide) | exact rfl)) (by omega) (by decide) rfl (rf_t60 _ _ _ _ _) ?_
      refine slv_aload_n eX12_stacks_72 rfl ?_
      refine slr_ga (p := 100) eX12_stacks_73 fX12_110 rfl ?_
      refine slv_aload_n eX12_stacks_76 rfl ?_
      refine slr_gi eX12_stacks_77 fX12_438 rfl (by repeat (first | exact sl_u_eq | assumption | apply rf_ne (by decide) | exact rfl)) ?_
      refine slv_iconst (v := nI 0) eX12_stacks_80 (by decide) ?_
      refine slr_zastX (k := 58) (p := 100) (len := 16) eX12_stacks_81 rfl (by repeat (first | exact sl_u_eq | assumption | apply rf_ne (by decide) | exact rfl)) (by omega) (by decide) (sl_nar_bi false) (rf_t58 _ _ _ _ _) ?_
      refine slv_aload_n eX12_stacks_82 rfl ?_
      refine slv_dup eX12_stacks_83 rfl ?_
      refine slr_gi eX12_stacks_84 fX12_444 rfl (by repeat (first | exact sl_u_eq | assumption | apply rf_ne (by decide) | exact rfl)) ?_
      refine slv_iconst (v := nI 1) eX12_stacks_87 (by decide) ?_
      refine slv_iaddN eX12_stacks_88 ?_
      refine slr_pi eX12_stacks_89 fX12_444 (Nat.le_of_ble_eq_true rfl) rf_s64 ?_
      refine slv_aload_n eX12_stacks_92 rfl ?_
      refine slr_gi eX12_stacks_93 fX12_438 rfl (by repeat (first | exact sl_u_eq | assumption | apply rf_ne (by decide) | exact rfl)) ?_
      refine slv_aload_n eX12_stacks_96 rfl ?_
      refine slr_gi eX12_stacks_97 fX12_450 rfl (by repeat (first | exact sl_u_eq | assumption | apply rf_ne (by decide) | exact rfl)) ?_
      refine slv_icmp_leN eX12_stacks_100 (by omega) (by omega) (fun h100 => ?_) (fun h100 => absurd h100 (by omega))
      refine slv_iconst (v := nI 1) eX12_stacks_111 (by decide) ?_
      refine slv_zret eX12_stacks_112 rfl rfl ?_
      exact ⟨rfl, _, _, rfl, fin _ _ rfl rfl (by rw [Nat.max_eq_left hm]; exact r4) frv2 hnar, frv2, fra _⟩
    · refine slv_aload_n eX12_stacks_0 rfl ?_
      refine slr_gi eX12_stacks_1 fX12_438 rfl (by repeat (first | exact sl_u_eq | assumption | apply rf_ne (by decide) | exact rfl)) ?_
      refine slv_bipush (v := nI 15) eX12_stacks_4 (by decide) ?_
      refine slv_icmp_neN eX12_stacks_6 (by omega) (by omega) (fun h6 => ?_) (fun h6 => absurd h6 (by omega))
      refine slv_aload_n eX12_stacks_17 rfl ?_
      refine slv_dup eX12_stacks_18 rfl ?_
      refine slr_gi eX12_stacks_19 fX12_438 rfl (by repeat (first | exact sl_u_eq | assumption | apply rf_ne (by decide) | exact rfl)) ?_
      refine slv_iconst (v := nI 1) eX12_stacks_22 (by decide) ?_
      refine slv_iaddN eX12_stacks_23 ?_
      refine slr_pi eX12_stacks_24 fX12_438 (Nat.le_of_ble_eq_true rfl) rf_s61 ?_
      refine slv_aload_n eX12_stacks_27 rfl ?_
      refine slr_ga (p := 96) eX12_stacks_28 fX12_98 rfl ?_
      refine slv_aload_n eX12_stacks_31 rfl ?_
      refine slr_gi eX12_stacks_32 fX12_438 rfl (by repeat (first | exact sl_u_eq | assumption | apply rf_ne (by decide) | exact rfl)) ?_
      refine slv_aload_n eX12_stacks_35 rfl ?_
      refine slr_ga (p := 92) eX12_stacks_36 fX12_86 rfl ?_
      refine slv_iload_n eX12_stacks_39 rfl ?_
      refine slr_ialdX (k := 46) (p := 92) (len := 61) eX12_stacks_40 rfl (by repeat (first | exact sl_u_eq | assumption | apply rf_ne (by decide) | exact rfl)) (by omega) (by decide) p2 ?_
      refine slr_iastX (k := 54) (p := 96) (len := 16) eX12_stacks_41 rfl (by repeat (first | exact sl_u_eq | assumption | apply rf_ne (by decide) | exact rfl)) (by omega) (by decide) (rf_t54 _ _ _ _ _) ?_
      refine slv_aload_n eX12_stacks_42 rfl ?_
      refine slr_ga (p := 98) eX12_stacks_43 fX12_104 rfl ?_
      refine slv_aload_n eX12_stacks_46 rfl ?_
      refine slr_gi eX12_stacks_47 fX12_438 rfl (by repeat (first | exact sl_u_eq | assumption | apply rf_ne (by decide) | exact rfl)) ?_
      refine slv_aload_n eX12_stacks_50 rfl ?_
      refine slr_ga (p := 94) eX12_stacks_51 fX12_92 rfl ?_
      refine slv_iload_n eX12_stacks_54 rfl ?_
      refine slr_ialdX (k := 48) (p := 94) (len := 61) eX12_stacks_55 rfl (by repeat (first | exact sl_u_eq | assumption | apply rf_ne (by decide) | exact rfl)) (by omega) (by decide) rfl ?_
      refine slr_iastX (k := 56) (p := 98) (len := 16) eX12_stacks_56 rfl (by repeat (first | exact sl_u_eq | assumption | apply rf_ne (by decide) | exact rfl)) (by omega) (by decide) (rf_t56 _ _ _ _ _) ?_
      refine slv_aload_n eX12_stacks_57 rfl ?_
      refine slr_ga (p := 102) eX12_stacks_58 fX12_116 rfl ?_
      refine slv_aload_n eX12_stacks_61 rfl ?_
      refine slr_gi eX12_stacks_62 fX12_438 rfl (by repeat (first | exact sl_u_eq | assumption | apply rf_ne (by decide) | exact rfl)) ?_
      refine slv_aload_n eX12_stacks_65 rfl ?_
      refine slr_ga (p := 95) eX12_stacks_66 fX12_95 rfl ?_
      refine slv_iload_n eX12_stacks_69 rfl ?_
      refine slr_zaldX (k := 49) (p := 95) (len := 61) eX12_stacks_70 rfl (by repeat (first | exact sl_u_eq | assumption | apply rf_ne (by decide) | exact rfl)) (by omega) (by decide) rfl ?_
      refine slr_zastX (k := 60) (p := 102) (len := 16) eX12_stacks_71 rfl (by repeat (first | exact sl_u_eq | assumption | apply rf_ne (by decide) | exact rfl)) (by omega) (by decide) rfl (rf_t60 _ _ _ _ _) ?_
      refine slv_aload_n eX12_stacks_72 rfl ?_
      refine slr_ga (p := 100) eX12_stacks_73 fX12_110 rfl ?_
      refine slv_aload_n eX12_stacks_76 rfl ?_
      refine slr_gi eX12_stacks_77 fX12_438 rfl (by repeat (first | exact sl_u_eq | assumption | apply rf_ne (by decide) | exact rfl)) ?_
      refine slv_iconst (v := nI 0) eX12_stacks_80 (by decide) ?_
      refine slr_zastX (k := 58) (p := 100) (len := 16) eX12_stacks_81 rfl (by repeat (first | exact sl_u_eq | assumption | apply rf_ne (by decide) | exact rfl)) (by omega) (by decide) (sl_nar_bi false) (rf_t58 _ _ _ _ _) ?_
      refine slv_aload_n eX12_stacks_82 rfl ?_
      refine slv_dup eX12_stacks_83 rfl ?_
      refine slr_gi eX12_stacks_84 fX12_444 rfl (by repeat (first | exact sl_u_eq | assumption | apply rf_ne (by decide) | exact rfl)) ?_
      refine slv_iconst (v := nI 1) eX12_stacks_87 (by decide) ?_
      refine slv_iaddN eX12_stacks_88 ?_
      refine slr_pi eX12_stacks_89 fX12_444 (Nat.le_of_ble_eq_true rfl) rf_s64 ?_
      refine slv_aload_n eX12_stacks_92 rfl ?_
      refine slr_gi eX12_stacks_93 fX12_438 rfl (by repeat (first | exact sl_u_eq | assumption | apply rf_ne (by decide) | exact rfl)) ?_
      refine slv_aload_n eX12_stacks_96 rfl ?_
      refine slr_gi eX12_stacks_97 fX12_450 rfl (by repeat (first | exact sl_u_eq | assumption | apply rf_ne (by decide) | exact rfl)) ?_
      refine slv_icmp_leN eX12_stacks_100 (by omega) (by omega) (fun h100 => absurd h100 (by omega)) (fun h100 => ?_)
      refine slv_aload_n eX12_stacks_103 rfl ?_
      refine slv_aload_n eX12_stacks_104 rfl ?_
      refine slr_gi eX12_stacks_105 fX12_438 rfl (by repeat (first | exact sl_u_eq | assumption | apply rf_ne (by decide) | exact rfl)) ?_
      refine slr_pi eX12_stacks_108 fX12_450 (Nat.le_of_ble_eq_true rfl) rf_s66 ?_
      refine slv_iconst (v := nI 1) eX12_stacks_111 (by decide) ?_
      refine slv_zret eX12_stacks_112 rfl rfl ?_
      exact ⟨rfl, _, _, rfl, fin _ _ rfl rfl (by rw [Nat.max_eq_right (by omega)]; rfl) (frv _) hnar, frv _, fra _⟩
  · simp only [h15, if_false]
    refine slv_aload_n eX12_stacks_0 rfl ?_
    refine slr_gi eX12_stacks_1 fX12_438 rfl (by repeat (first | exact sl_u_eq | assumption | apply rf_ne (by decide) | exact rfl)) ?_
    refine slv_bipush (v := nI 15) eX12_stacks_4 (by decide) ?_
    refine slv_icmp_neN eX12_stacks_6 (by omega) (by omega) (fun h6 => absurd h6 (by omega)) (fun h6 => ?_)
    refine slv_aload_n eX12_stacks_9 rfl ?_
    refine slv_bipush (v := nI 7) eX12_stacks_10 (by decide) ?_
    refine slr_pi eX12_stacks_12 fX12_441 (Nat.le_of_ble_eq_true rfl) rf_s62 ?_
    refine slv_iconst (v := nI 0) eX12_stacks_15 (by decide) ?_
    refine slv_zret eX12_stacks_16 rfl rfl ?_
    exact ⟨rfl, rfl⟩
end RST
