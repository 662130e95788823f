/-! the reference's reading is the class's -/
theorem rd_nx_red2 {E : rx_T} {S : rd_T} {fr : Nat} {H : hn_T} : rd_nx (rd_red2 E S fr H) = rd_nx S := by
  unfold rd_red2
  cases rd_rule (rx_g E) H with
  | none => rfl
  | some r =>
    simp only
    unfold rd_red3
    split
    · rfl
    · rfl
theorem rd_nx_red {E : rx_T} {S : rd_T} : rd_nx (rd_red E S) = rd_nx S := by
  unfold rd_red
  split
  · rfl
  · exact rd_nx_red2
theorem rd_red_f {E : rx_T} {S : rd_T} (h0 : rd_fa S = 0) (h : rd_fa (rd_red E S) ≠ 0) : rd_en (rd_red E S) = true ∧ rd_pl (rd_red E S) = nI (rd_here E (rd_nx S)) ∧ rd_fa (rd_red E S) < 100 := by
  unfold rd_red at h ⊢
  split at h
  · rename_i hc
    rw [if_pos hc]
    exact ⟨rfl, rfl, (by decide : 4 < 100)⟩
  · rename_i hc
    rw [if_neg hc]
    generalize rd_hd (rx_o E) (rd_stk S) (rd_tp S) = fr at *
    unfold rd_red2 at h ⊢
    cases hr : rd_rule (rx_g E) (rd_gat S fr) with
    | none => exact ⟨rfl, rfl, (by decide : 4 < 100)⟩
    | some r =>
      rw [hr] at h
      simp only at h ⊢
      have hlt := rd_mv_lt (sg_kind (rx_g E)) (sg_deeds (rx_g E) r) (rx_rl E (rd_tok S fr), rx_bt E (rd_tok S fr)) (nd_rl (rd_nd S)) (nd_bi (rd_nd S)) (rd_gat S fr).1 (rd_gat S fr).2.1 (rd_rc S)
      generalize rd_mv (sg_kind (rx_g E)) (sg_deeds (rx_g E) r) (rx_rl E (rd_tok S fr), rx_bt E (rd_tok S fr)) (nd_rl (rd_nd S)) (nd_bi (rd_nd S)) (rd_gat S fr).1 (rd_gat S fr).2.1 (rd_rc S) = V at h hlt ⊢
      unfold rd_red3 at h ⊢
      by_cases hV : V.1 = 0
      · rw [if_pos hV] at h
        exact absurd h0 h
      · rw [if_neg hV]
        exact ⟨rfl, rfl, hlt⟩
section RSL
variable {w : Int64} {nm : Nat → Int64} {M : sl_M} {E : rx_T} {how : Nat} {s : Nat → Int32} {rn : Nat} {rk kn nu : Nat → Nat}
set_option maxRecDepth 100000 in
theorem rs_L (hE : rdE E) (h0 : how = 1 → rn = 0) (hh : how < 2) (hEo : rx_o E = ro_o s (sg_terms (rx_g E)) nu kn how) : ∀ (n : Nat) (S : rd_T) (v : Nat → Int32) (a : Nat → Nat → Int32), rd_sp S + n = 121 → rdI E S → rd_en S = false → rd_fa S = 0 → rdR E S v a → v 62 = nI 0 → rf_G (rx_g E) v a → a 38 = s → rf_K rn rk kn nu v a → rtk E a → ∀ (Q : Option Value → sl_M → Prop) (l3 l4 l5 : Option Value), (∀ v' a', rdR E (rd_run E n S) v' a' → v' 62 = nI (rd_fa (rd_run E n S)) → (rd_fa (rd_run E n S) ≠ 0 → v' 63 = rd_pl (rd_run E n S)) → (rd_fa (rd_run E n S) = 0 → ∃ k, rd_beh (rd_run E n S) 0 = some k) → rsF v a v' a' → Q none (rf_S v' w a' nm M)) → sl_V YX12_reads none 7 0 0 Q 44 [some (.ref 68), some (.int (nI how)), some (.int (nI (rd_nx S))), l3, l4, l5] [] (rf_S v w a nm M) := by
  intro n
  induction n with
  | zero =>
    intro S v a hn hI hen hfa hR hf hG hs hK hT Q l3 l4 l5 hQ
    have h1 : rd_nx S ≤ rx_tc E := hI.1.1
    have h2 := hE.2.2.1
    have h3 := hI.2.1
    have h4 := hI.2.2.1
    omega
  | succ n ih =>
    intro S v a hn hI hen hfa hR hf hG hs hK hT Q l3 l4 l5 hQ
    have hrun : rd_run E (n + 1) S = rd_run E n (rd_go E S) := by rw [rd_run, hen]; rfl
    rw [hrun] at hQ
    have hE0 := hE
    have hI0 := hI
    obtain ⟨hok, hstr, htc, htk0, hro⟩ := hE
    obtain ⟨hrk, hcn, hsp, hs0, hsi, hcan⟩ := hI
    have he : sg_terms (rx_g E) ≤ 11 := hok.2.2.2.1
    have hnx : rd_nx S ≤ rx_tc E := hrk.1
    have htp : rd_tp S ≤ 15 := hrk.2.1
    have hmo : rd_mo S ≤ 15 := hrk.2.2.1
    have hst : ∀ i, i < 16 → rd_stk S i < 12 := hrk.2.2.2.2.1
    have hx12 := hst (rd_tp S) (by omega)
    have g16 := hG.2.2.1
    have hpl : a 47 (rd_nx S) = nI (rd_here E (rd_nx S)) := by
      unfold rd_here
      by_cases q : rd_nx S < rx_tc E
      · rw [decide_eq_true q]; exact (hT.1 _ q).1
      · rw [decide_eq_false q, show rd_nx S = rx_tc E by omega]; exact hT.2.2
    have htk : a 46 (rd_nx S) = sl_io (rd_nt E (rd_nx S)) := by
      by_cases q : rd_nx S < rx_tc E
      · rw [rd_nt_k q]; exact (hT.1 _ q).2.1
      · rw [rd_nt_e q, show rd_nx S = rx_tc E by omega]; exact hT.2.1
    obtain ⟨c1, -, -⟩ := hR.2.1 (rd_tp S) (Nat.le_refl _)
    obtain ⟨-, c0, -⟩ := hR.2.1 0 (Nat.zero_le _)
    have k1 := hR.1.1
    have hF0 : rsF v a (sl_u v 63 (nI (rd_here E (rd_nx S)))) a := rf_f0
    obtain ⟨e1, e2⟩ := rsF_l (Lv := [14, 15, 16, 22, 23]) (La := [3, 4, 5, 6, 7]) hF0 (by decide) (by decide)
    have hR1 : rdR E S (sl_u v 63 (nI (rd_here E (rd_nx S)))) a := hR
    have hG1 := rf_G_same hG e1 e2
    have hK1 : rf_K rn rk kn nu (sl_u v 63 (nI (rd_here E (rd_nx S)))) a := hK
    have ended : ∀ S2 v2 a2, rd_go E S = S2 → rd_en S2 = true → rdR E S2 v2 a2 → v2 62 = nI (rd_fa S2) → (rd_fa S2 ≠ 0 → v2 63 = rd_pl S2) → (rd_fa S2 = 0 → ∃ k, rd_beh S2 0 = some k) → rsF v a v2 a2 → Q none (rf_S v2 w a2 nm M) := by
      intro S2 v2 a2 q1 q2 q3 q4 q5 q7 q6
      rw [q1, rd_run_en q2] at hQ
      exact hQ v2 a2 q3 q4 q5 q7 q6
    have failed : ∀ k, k ≠ 0 → rd_go E S = rd_fh E k S → Q none (rf_S (sl_u (sl_u v 63 (nI (rd_here E (rd_nx S)))) 62 (nI k)) w a nm M) := fun k hk q => ended _ _ _ q rfl hR rfl (fun _ => rfl) (fun z => absurd z hk) rf_f1
    have goOn : ∀ (S2 : rd_T) (v2 : Nat → Int32) (a2 : Nat → Nat → Int32) (l3 l4 l5 : Option Value), rd_go E S = S2 → rd_sp S2 = rd_sp S + 1 → rdI E S2 → rd_en S2 = false → rd_fa S2 = 0 → rdR E S2 v2 a2 → v2 62 = nI 0 → rsF v a v2 a2 → sl_V YX12_reads none 7 0 0 Q 44 [some (.ref 68), some (.int (nI how)), some (.int (nI (rd_nx S2))), l3, l4, l5] [] (rf_S v2 w a2 nm M) := by
      intro S2 v2 a2 l3 l4 l5 q1 q2 q3 q4 q5 q6 q7 q8
      rw [q1] at hQ
      obtain ⟨f1, f2⟩ := rsF_l (Lv := [14, 15, 16, 22, 23]) (La := [3, 4, 5, 6, 7]) q8 (by decide) (by decide)
      obtain ⟨f3, f4⟩ := rsF_l (Lv := [44]) (La := [39, 40, 45]) q8 (by decide) (by decide)
      obtain ⟨f5, f6⟩ := rsF_l (Lv := []) (La := [47, 46, 48, 49]) q8 (by decide) (by decide)
      exact ih S2 v2 a2 (by omega) q3 q4 q5 q6 q7 (rf_G_same hG f1 f2) ((q8.2 _ (by decide)).trans hs) (rf_K_F hK f3 f4) (rtk_F hT f6) Q l3 l4 l5 (fun v' a' z1 z2 z3 z5 z4 => hQ v' a' z1 z2 z3 z5 (rsF_t q8 z4))
    refine slv_aload_n eX12_reads_44 rfl ?_
    refine slr_gi eX12_reads_45 fX12_441 rfl (by repeat (first | exact sl_u_eq | assumption | apply rf_ne (by decide) | exact rfl)) ?_
    refine slv_if_neN eX12_reads_48 (by omega) (fun h48 => absurd h48 (by omega)) (fun h48 => ?_)
    refine slv_aload_n eX12_reads_51 rfl ?_
    refine slr_ga (p := 92) eX12_reads_52 fX12_86 rfl ?_
    refine slv_iload_n eX12_reads_55 rfl ?_
    refine slr_ialdX (k := 46) (p := 92) (len := 61) eX12_reads_56 rfl (by repeat (first | exact sl_u_eq | assumption | apply rf_ne (by decide) | exact rfl)) (by omega) (by decide) htk ?_
    refine slv_istore_n (i := 3) (lv' := [_, _, _, _, _, _]) eX12_reads_57 rfl (by decide) rfl ?_
    refine slv_aload_n eX12_reads_58 rfl ?_
    refine slr_ga (p := 96) eX12_reads_59 fX12_98 rfl ?_
    refine slv_aload_n eX12_reads_62 rfl ?_
    refine slr_gi eX12_reads_63 fX12_438 rfl (by repeat (first | exact sl_u_eq | assumption | apply rf_ne (by decide) | exact rfl)) ?_
    refine slr_ialdX (k := 54) (p := 96) (len := 16) eX12_reads_66 rfl (by repeat (first | exact sl_u_eq | assumption | apply rf_ne (by decide) | exact rfl)) (by omega) (by decide) c1 ?_
    refine slv_istore (lv' := [_, _, _, _, _, _]) eX12_reads_67 (by decide) rfl ?_
    refine slv_aload_n eX12_reads_69 rfl ?_
    refine slv_aload_n eX12_reads_70 rfl ?_
    refine slr_ga (p := 93) eX12_reads_71 fX12_89 rfl ?_
    refine slv_iload_n eX12_reads_74 rfl ?_
    refine slr_ialdX (k := 47) (p := 93) (len := 61) eX12_reads_75 rfl (by repeat (first | exact sl_u_eq | assumption | apply rf_ne (by decide) | exact rfl)) (by omega) (by decide) hpl ?_
    refine slr_pi eX12_reads_76 fX12_453 (Nat.le_of_ble_eq_true rfl) rf_s63 ?_
    skip
    cases hnt : rd_nt E (rd_nx S) with
    | none =>
      have hgo : rd_go E S = rd_fh E 2 S := by unfold rd_go; rw [hnt]
      have hz := failed 2 (by decide) hgo
      refine slv_iload_n eX12_reads_79 rfl ?_
      refine slv_iconst (v := (-1)) eX12_reads_80 (by decide) ?_
      refine slv_icmp_ne eX12_reads_81 (fun h81 => absurd rfl h81) (fun h81 => ?_)
      refine slv_aload_n eX12_reads_84 rfl ?_
      refine slv_iconst (v := nI 2) eX12_reads_85 (by decide) ?_
      refine slr_pi eX12_reads_86 fX12_441 (Nat.le_of_ble_eq_true rfl) rf_s62 ?_
      refine slv_goto eX12_reads_89 ?_
      refine slv_goto eX12_reads_197 ?_
      exact rs_end (k := 2) (by decide) (by decide) rfl hz
    | some y =>
      have hgo : rd_go E S = if rd_stk S (rd_tp S) = sg_terms (rx_g E) ∧ y = sg_terms (rx_g E) then rd_fin E S else rd_go2 E S (rd_stk S (rd_tp S)) y := by unfold rd_go; rw [hnt]
      have hye : y ≤ sg_terms (rx_g E) ∧ (y ≠ sg_terms (rx_g E) → rd_nx S < rx_tc E ∧ gt_k (rx_g E) (rx_sg E (rd_nx S)) = some y) := by
        by_cases q : rd_nx S < rx_tc E
        · rw [rd_nt_k q] at hnt
          exact ⟨Nat.le_of_lt (gt_k_lt hnt), fun _ => ⟨q, hnt⟩⟩
        · rw [rd_nt_e q] at hnt
          have := Option.some.inj hnt
          exact ⟨by omega, fun q2 => absurd this.symm q2⟩
      have hy1 : nI y ≠ -1 := nI_neg1 (by omega)
      have hshow : sl_io (some y) = nI y := rfl
      rw [hshow]
      by_cases hfin : rd_stk S (rd_tp S) = sg_terms (rx_g E) ∧ y = sg_terms (rx_g E)
      · rw [if_pos hfin] at hgo
        obtain ⟨hx, hy⟩ := hfin
        cases hb : rd_beh S 0 with
        | none =>
          rw [hb] at c0
          have hfi : rd_go E S = rd_fh E 4 ((S.1.1, S.1.2.1, S.1.2.2.1, S.1.2.2.2.1, S.1.2.2.2.2.1, true, S.1.2.2.2.2.2.2), S.2) := by rw [hgo]; unfold rd_fin; rw [hb]; rfl
          have hz : Q none (rf_S (sl_u (sl_u v 63 (nI (rd_here E (rd_nx S)))) 62 (nI 4)) w a nm M) := ended _ _ _ hfi rfl hR rfl (fun _ => rfl) (fun z => by cases z) rf_f1
          refine slv_iload_n eX12_reads_79 rfl ?_
          refine slv_iconst (v := (-1)) eX12_reads_80 (by decide) ?_
          refine slv_icmp_ne eX12_reads_81 (fun h81 => ?_) (fun h81 => absurd h81 hy1)
          refine slv_iload eX12_reads_92 rfl ?_
          refine slv_aload_n eX12_reads_94 rfl ?_
          refine slr_gi eX12_reads_95 fX12_324 rfl (by repeat (first | exact sl_u_eq | assumption | apply rf_ne (by decide) | exact rfl)) ?_
          refine slv_icmp_neN eX12_reads_98 (by omega) (by omega) (fun h98 => absurd h98 (by omega)) (fun h98 => ?_)
          refine slv_iload_n eX12_reads_101 rfl ?_
          refine slv_aload_n eX12_reads_102 rfl ?_
          refine slr_gi eX12_reads_103 fX12_324 rfl (by repeat (first | exact sl_u_eq | assumption | apply rf_ne (by decide) | exact rfl)) ?_
          refine slv_icmp_neN eX12_reads_106 (by omega) (by omega) (fun h106 => absurd h106 (by omega)) (fun h106 => ?_)
          refine slv_aload_n eX12_reads_109 rfl ?_
          refine slr_ga (p := 100) eX12_reads_110 fX12_110 rfl ?_
          refine slv_iconst (v := nI 0) eX12_reads_113 (by decide) ?_
          refine slr_zaldX (k := 58) (p := 100) (len := 16) eX12_reads_114 rfl (by repeat (first | exact sl_u_eq | assumption | apply rf_ne (by decide) | exact rfl)) (by omega) (by decide) c0 ?_
          refine slv_if_neB eX12_reads_115 (fun h115 => absurd h115 (by decide)) (fun h115 => ?_)
          refine slv_aload_n eX12_reads_118 rfl ?_
          refine slv_iconst (v := nI 4) eX12_reads_119 (by decide) ?_
          refine slr_pi eX12_reads_120 fX12_441 (Nat.le_of_ble_eq_true rfl) rf_s62 ?_
          refine slv_vret eX12_reads_123 rfl ?_
          exact hz
        | some k =>
          rw [hb] at c0
          have hfi : rd_go E S = ((S.1.1, S.1.2.1, S.1.2.2.1, S.1.2.2.2.1, S.1.2.2.2.2.1, true, S.1.2.2.2.2.2.2), S.2) := by rw [hgo]; unfold rd_fin; rw [hb]; rfl
          have hz : Q none (rf_S (sl_u v 63 (nI (rd_here E (rd_nx S)))) w a nm M) := ended _ _ _ hfi rfl hR (by show v 62 = nI (rd_fa S); rw [hfa]; exact hf) (fun q => absurd hfa q) (fun _ => ⟨k, hb⟩) rf_f0
          refine slv_iload_n eX12_reads_79 rfl ?_
          refine slv_iconst (v := (-1)) eX12_reads_80 (by decide) ?_
          refine slv_icmp_ne eX12_reads_81 (fun h81 => ?_) (fun h81 => absurd h81 hy1)
          refine slv_iload eX12_reads_92 rfl ?_
          refine slv_aload_n eX12_reads_94 rfl ?_
          refine slr_gi eX12_reads_95 fX12_324 rfl (by repeat (first | exact sl_u_eq | assumption | apply rf_ne (by decide) | exact rfl)) ?_
          refine slv_icmp_neN eX12_reads_98 (by omega) (by omega) (fun h98 => absurd h98 (by omega)) (fun h98 => ?_)
          refine slv_iload_n eX12_reads_101 rfl ?_
          refine slv_aload_n eX12_reads_102 rfl ?_
          refine slr_gi eX12_reads_103 fX12_324 rfl (by repeat (first | exact sl_u_eq | assumption | apply rf_ne (by decide) | exact rfl)) ?_
          refine slv_icmp_neN eX12_reads_106 (by omega) (by omega) (fun h106 => absurd h106 (by omega)) (fun h106 => ?_)
          refine slv_aload_n eX12_reads_109 rfl ?_
          refine slr_ga (p := 100) eX12_reads_110 fX12_110 rfl ?_
          refine slv_iconst (v := nI 0) eX12_reads_113 (by decide) ?_
          refine slr_zaldX (k := 58) (p := 100) (len := 16) eX12_reads_114 rfl (by repeat (first | exact sl_u_eq | assumption | apply rf_ne (by decide) | exact rfl)) (by omega) (by decide) c0 ?_
          refine slv_if_neB eX12_reads_115 (fun h115 => ?_) (fun h115 => absurd h115 (fun z => by cases z))
          refine slv_vret eX12_reads_123 rfl ?_
          exact hz
      · rw [if_neg hfin] at hgo
        have hRl0 := c_X12_relates_ (w := w) (nm := nm) (M := M) (how := how) he hG1.2.2.1 hs hK1 h0 hh hx12 (show y < 12 by omega) hfin
        rw [← hEo, show sl_bi (decide (how = 1)) = nI how by rcases (show how = 0 ∨ how = 1 by omega) with q | q <;> subst q <;> rfl] at hRl0
        have aft : ∀ l5 : Option Value, sl_V YX12_reads none 7 0 0 Q 124 [some (.ref 68), some (.int (nI how)), some (.int (nI (rd_nx S))), some (.int (nI y)), some (.int (nI (rd_stk S (rd_tp S)))), l5] [] (rf_S (sl_u v 63 (nI (rd_here E (rd_nx S)))) w a nm M) := by
          intro l5
          refine rs_124 hh hRl0 ?_
          have hgo2 : rd_go2 E S (rd_stk S (rd_tp S)) y = if rx_o E (rd_stk S (rd_tp S)) y = nI 4 then rd_red E S else if rx_o E (rd_stk S (rd_tp S)) y = nI 1 ∨ rx_o E (rd_stk S (rd_tp S)) y = nI 2 then rd_push E y S else rd_fh E 3 S := rfl
          rw [hgo2] at hgo
          by_cases o4 : rx_o E (rd_stk S (rd_tp S)) y = nI 4
          · rw [if_pos o4] at hgo
            have htp1 : 1 ≤ rd_tp S := by
              rcases Nat.eq_zero_or_pos (rd_tp S) with q | q
              · rw [q, hs0] at o4
                exact absurd o4 (hro.1 y (by omega)).2
              · exact q
            have hRe := c_X12_reduces (w := w) (nm := nm) (M := M) hE0 hI0 hG1 hs hK1 h0 hh hEo (v := sl_u v 63 (nI (rd_here E (rd_nx S)))) hf hfa hR1 htp1
            rw [show sl_bi (decide (how = 1)) = nI how by rcases (show how = 0 ∨ how = 1 by omega) with q | q <;> subst q <;> rfl] at hRe
            have n1 : ¬ rx_o E (rd_stk S (rd_tp S)) y = nI 1 := by rw [o4]; decide
            have n2 : ¬ rx_o E (rd_stk S (rd_tp S)) y = nI 2 := by rw [o4]; decide
            refine slv_iload eX12_reads_143 rfl ?_
            refine slv_iconst (v := nI 1) eX12_reads_145 (by decide) ?_
            refine slv_icmp_eq eX12_reads_146 (fun h146 => absurd h146 n1) (fun h146 => ?_)
            refine slv_iload eX12_reads_149 rfl ?_
            refine slv_iconst (v := nI 2) eX12_reads_151 (by decide) ?_
            refine slv_icmp_ne eX12_reads_152 (fun h152 => ?_) (fun h152 => absurd h152 n2)
            refine slv_iload eX12_reads_169 rfl ?_
            refine slv_iconst (v := nI 4) eX12_reads_171 (by decide) ?_
            refine slv_icmp_ne eX12_reads_172 (fun h172 => absurd o4 h172) (fun h172 => ?_)
            refine rs_175 hh hRe ?_
            rintro _ _ ⟨rfl, v2, a2, rfl, z1, z2, z3⟩
            refine ⟨rfl, ?_⟩
            have zF := rsF_t hF0 (reF_s z3)
            by_cases hz0 : rd_fa (rd_red E S) = 0
            · obtain ⟨y1, y2, y3⟩ := rdI_red hE0 hI0 htp1 hfa hz0
              have := goOn _ v2 a2 (some (.int (nI y))) (some (.int (nI (rd_stk S (rd_tp S))))) (some (.int (rx_o E (rd_stk S (rd_tp S)) y))) hgo y3 y1 (y2.trans hen) hz0 z1 (by rw [z2, hz0]) zF
              rw [rd_nx_red] at this
              exact this
            · obtain ⟨y1, y2, y3⟩ := rd_red_f hfa hz0
              exact rs_end hz0 y3 z2 (ended _ v2 a2 hgo y1 z1 z2 (fun _ => by rw [y2, z3.1 _ (by decide)]; rfl) (fun z => absurd z hz0) zF)
          · rw [if_neg o4] at hgo
            by_cases o12 : rx_o E (rd_stk S (rd_tp S)) y = nI 1 ∨ rx_o E (rd_stk S (rd_tp S)) y = nI 2
            · rw [if_pos o12] at hgo
              have hyn : y ≠ sg_terms (rx_g E) := fun q => by
                rw [q] at o12
                have := hro.2 (rd_stk S (rd_tp S)) hx12
                rcases o12 with c | c
                · exact this.1 c
                · exact this.2 c
              obtain ⟨hlt, hgk⟩ := hye.2 hyn
              have hSt := c_X12_stacks (w := w) (nm := nm) (M := M) hR1 hT htc hlt hgk htp hmo (by omega)
              have fin : sl_V YX12_reads none 7 0 0 Q 155 [some (.ref 68), some (.int (nI how)), some (.int (nI (rd_nx S))), some (.int (nI y)), some (.int (nI (rd_stk S (rd_tp S)))), some (.int (rx_o E (rd_stk S (rd_tp S)) y))] [] (rf_S (sl_u v 63 (nI (rd_here E (rd_nx S)))) w a nm M) := by
                refine rs_155 (by omega) hSt ?_
                intro o M' hP
                by_cases h15 : rd_tp S < 15
                · rw [if_pos h15] at hP
                  obtain ⟨rfl, v2, a2, rfl, z1, z2, z3⟩ := hP
                  refine ⟨true, rfl, ?_⟩
                  have hP2 : rd_push E y S = ((rd_fa S, rd_pl S, rd_sp S + 1, max (rd_mo S) (rd_tp S + 1), rd_nx S + 1, rd_en S, rd_tp S + 1), (sl_u (rd_stk S) (rd_tp S + 1) y, sl_u (rd_tok S) (rd_tp S + 1) (rd_nx S), sl_u (rd_beh S) (rd_tp S + 1) none), S.2.2) := by unfold rd_push; rw [if_pos h15]
                  have zF : rsF v a v2 a2 := rsF_t hF0 ⟨fun k hk => z2 k (fun q => hk (by
                    simp only [List.mem_cons, List.mem_nil_iff, or_false] at q ⊢
                    omega)), fun k hk => z3 k (fun q => hk (by
                    simp only [List.mem_cons, List.mem_nil_iff, or_false] at q ⊢
                    omega))⟩
                  have := goOn (rd_push E y S) v2 a2 (some (.int (nI y))) (some (.int (nI (rd_stk S (rd_tp S))))) (some (.int (rx_o E (rd_stk S (rd_tp S)) y))) hgo (by rw [hP2]) (rdI_push hE0 hI0 hgk hlt h15) (by rw [hP2]; exact hen) (by rw [hP2]; exact hfa) z1 (by rw [z2 _ (by decide)]; exact hf) zF
                  rw [show rd_nx (rd_push E y S) = rd_nx S + 1 by rw [hP2]] at this
                  exact this
                · rw [if_neg h15] at hP
                  obtain ⟨rfl, rfl⟩ := hP
                  have hgo7 : rd_go E S = rd_fh E 7 S := by rw [hgo]; unfold rd_push; rw [if_neg h15]
                  exact ⟨false, rfl, rs_end (k := 7) (by decide) (by decide) rfl (failed 7 (by decide) hgo7)⟩
              rcases o12 with c | c
              · refine slv_iload eX12_reads_143 rfl ?_
                refine slv_iconst (v := nI 1) eX12_reads_145 (by decide) ?_
                refine slv_icmp_eq eX12_reads_146 (fun h146 => ?_) (fun h146 => absurd c h146)
                exact fin
              · have n1 : ¬ rx_o E (rd_stk S (rd_tp S)) y = nI 1 := by rw [c]; decide
                refine slv_iload eX12_reads_143 rfl ?_
                refine slv_iconst (v := nI 1) eX12_reads_145 (by decide) ?_
                refine slv_icmp_eq eX12_reads_146 (fun h146 => absurd h146 n1) (fun h146 => ?_)
                refine slv_iload eX12_reads_149 rfl ?_
                refine slv_iconst (v := nI 2) eX12_reads_151 (by decide) ?_
                refine slv_icmp_ne eX12_reads_152 (fun h152 => absurd c h152) (fun h152 => ?_)
                exact fin
            · rw [if_neg o12] at hgo
              have hz := failed 3 (by decide) hgo
              have n1 : ¬ rx_o E (rd_stk S (rd_tp S)) y = nI 1 := fun q => o12 (Or.inl q)
              have n2 : ¬ rx_o E (rd_stk S (rd_tp S)) y = nI 2 := fun q => o12 (Or.inr q)
              refine slv_iload eX12_reads_143 rfl ?_
              refine slv_iconst (v := nI 1) eX12_reads_145 (by decide) ?_
              refine slv_icmp_eq eX12_reads_146 (fun h146 => absurd h146 n1) (fun h146 => ?_)
              refine slv_iload eX12_reads_149 rfl ?_
              refine slv_iconst (v := nI 2) eX12_reads_151 (by decide) ?_
              refine slv_icmp_ne eX12_reads_152 (fun h152 => ?_) (fun h152 => absurd h152 n2)
              refine slv_iload eX12_reads_169 rfl ?_
              refine slv_iconst (v := nI 4) eX12_reads_171 (by decide) ?_
              refine slv_icmp_ne eX12_reads_172 (fun h172 => ?_) (fun h172 => absurd h172 o4)
              refine slv_aload_n eX12_reads_192 rfl ?_
              refine slv_iconst (v := nI 3) eX12_reads_193 (by decide) ?_
              refine slr_pi eX12_reads_194 fX12_441 (Nat.le_of_ble_eq_true rfl) rf_s62 ?_
              refine slv_goto eX12_reads_197 ?_
              exact rs_end (k := 3) (by decide) (by decide) rfl hz
        by_cases hx : rd_stk S (rd_tp S) = sg_terms (rx_g E)
        · have hy : ¬ y = sg_terms (rx_g E) := fun q => hfin ⟨hx, q⟩
          refine slv_iload_n eX12_reads_79 rfl ?_
          refine slv_iconst (v := (-1)) eX12_reads_80 (by decide) ?_
          refine slv_icmp_ne eX12_reads_81 (fun h81 => ?_) (fun h81 => absurd h81 hy1)
          refine slv_iload eX12_reads_92 rfl ?_
          refine slv_aload_n eX12_reads_94 rfl ?_
          refine slr_gi eX12_reads_95 fX12_324 rfl (by repeat (first | exact sl_u_eq | assumption | apply rf_ne (by decide) | exact rfl)) ?_
          refine slv_icmp_neN eX12_reads_98 (by omega) (by omega) (fun h98 => absurd h98 (by omega)) (fun h98 => ?_)
          refine slv_iload_n eX12_reads_101 rfl ?_
          refine slv_aload_n eX12_reads_102 rfl ?_
          refine slr_gi eX12_reads_103 fX12_324 rfl (by repeat (first | exact sl_u_eq | assumption | apply rf_ne (by decide) | exact rfl)) ?_
          refine slv_icmp_neN eX12_reads_106 (by omega) (by omega) (fun h106 => ?_) (fun h106 => absurd h106 hy)
          exact aft _
        · refine slv_iload_n eX12_reads_79 rfl ?_
          refine slv_iconst (v := (-1)) eX12_reads_80 (by decide) ?_
          refine slv_icmp_ne eX12_reads_81 (fun h81 => ?_) (fun h81 => absurd h81 hy1)
          refine slv_iload eX12_reads_92 rfl ?_
          refine slv_aload_n eX12_reads_94 rfl ?_
          refine slr_gi eX12_reads_95 fX12_324 rfl (by repeat (first | exact sl_u_eq | assumption | apply rf_ne (by decide) | exact rfl)) ?_
          refine slv_icmp_neN eX12_reads_98 (by omega) (by omega) (fun h98 => ?_) (fun h98 => absurd h98 hx)
          exact aft _
end RSL
