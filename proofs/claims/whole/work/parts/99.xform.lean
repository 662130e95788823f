/-! the reference: formula -/
section RFU
variable {v : Nat → Int32} {w : Int64} {a : Nat → Nat → Int32} {nm : Nat → Int64} {M : sl_M} {g : sg_T} {s : Nat → Int32} {rn : Nat} {rk kn nu : Nat → Nat} {ln how : Nat} {S0 : rd_T} {sn : Bool} {fd : Nat} {f : Nat → Int32} {sg pl : Nat → Nat} {rl : Nat → Bool} {bt : Nat → Int32}
theorem rd_fa_lt {E : rx_T} : ∀ (n : Nat) (S : rd_T), rd_fa S < 100 → rd_fa (rd_run E n S) < 100 := by
  intro n
  induction n with
  | zero => intro S h; exact h
  | succ n ih =>
    intro S h
    rw [rd_run]
    cases rd_en S with
    | true => exact h
    | false =>
      refine ih _ ?_
      unfold rd_go
      cases rd_nt E (rd_nx S) with
      | none => exact (by decide : 2 < 100)
      | some y =>
        simp only
        split
        · unfold rd_fin
          cases (decide (rd_beh S 0 = none)) with
          | true => exact (by decide : 4 < 100)
          | false => exact h
        · unfold rd_go2
          split
          · by_cases h0 : rd_fa (rd_red E S) = 0
            · rw [h0]; decide
            · unfold rd_red at h0 ⊢
              split
              · exact (by decide : 4 < 100)
              · unfold rd_red2
                cases rd_rule (rx_g E) (rd_gat S (rd_hd (rx_o E) (rd_stk S) (rd_tp S))) with
                | none => exact (by decide : 4 < 100)
                | some r =>
                  simp only
                  unfold rd_red3
                  split
                  · exact h
                  · exact rd_mv_lt _ _ _ _ _ _ _ _
          · split
            · unfold rd_push
              split
              · exact h
              · exact (by decide : 7 < 100)
            · exact (by decide : 3 < 100)
theorem rdS_fa {q : fs_T} : rd_fa (rdS g ln q s nu kn how S0) < 100 := by
  refine rd_fa_lt 121 _ ?_
  unfold rd_new
  cases q.1 with
  | none => exact (by decide : 0 < 100)
  | some p => exact (by decide : 1 < 100)
set_option maxRecDepth 100000 in
theorem fm_90 {l1 : Option Value} {q : fs_T} {Q : Option Value → sl_M → Prop} (hok : sg_ok g) (hst : sg_str g) (hL : rlaid g s rn rk kn nu v a) (hT : v 51 = sl_io q.1 ∧ (q.1 = none → rtk (rxE g ln q (fun _ _ => 0)) a)) (htk : v 50 = nI (if q.1 = none then q.2.1 else 0)) (hc : q.2.1 ≤ 60) (hP : tkP q) (hbd : ∀ k, q.1 = some k → k < 2147483648) (hh : how < 2) (h0 : how = 1 → rn = 0) (hr : rd_rest S0) (hQ : ∀ v' a', v' 1 = nI (an_stt (rdS g ln q s nu kn how S0)) → v' 2 = (if rd_fa (rdS g ln q s nu kn how S0) = 0 then -1 else rd_pl (rdS g ln q s nu kn how S0)) → v' 53 = nI 1 → ftold g ln q how v' a' → rqF (sl_u (sl_u v 53 (nI 1)) 52 (nI how)) a v' a' → v' 0 = v 0 → Q (some (.int (an_steps (rdS g ln q s nu kn how S0)))) (rf_S v' w a' nm M)) : sl_V YX12_formula none 9 0 0 Q 90 [some (.ref 68), l1, some (.int (nI how))] [] (rf_S v w a nm M) := by
  have e : ∀ k, k ∈ [14, 15, 16, 22, 23, 44, 51, 50] → (sl_u (sl_u v 53 (nI 1)) 52 (nI how)) k = v k := fun k hk => by
    rw [sl_u_ne (fun e => by rw [e] at hk; revert hk; decide), sl_u_ne (fun e => by rw [e] at hk; revert hk; decide)]
  have hL1 := rlaid_F (a' := a) hL (fun k hk => e k (by simp only [List.mem_cons, List.mem_nil_iff, or_false] at hk ⊢; omega)) (fun _ _ => rfl)
  have hT0 : ftold g ln q how (sl_u (sl_u v 53 (nI 1)) 52 (nI how)) a := ⟨sl_u_eq, (e _ (by decide)).trans hT.1, (e _ (by decide)).trans htk, hT.2⟩
  have hRB := rd_by (w := w) (nm := nm) (M := M) hok hst hL1 ⟨hT0.2.1, hT0.2.2.2⟩ hc hP hbd hh h0 hr
  have hfa := rdS_fa (g := g) (ln := ln) (s := s) (nu := nu) (kn := kn) (how := how) (S0 := S0) (q := q)
  generalize rdS g ln q s nu kn how S0 = S at *
  have aft : ∀ v2 a2, rqR S v2 a2 → rsF (sl_u (sl_u v 53 (nI 1)) 52 (nI how)) a v2 a2 → sl_V YX12_formula none 9 0 0 Q 105 [some (.ref 68), l1, some (.int (nI how))] [] (rf_S v2 w a2 nm M) := by
    intro v2 a2 z1 z2
    obtain ⟨⟨y1, y2, y3, y4, y5⟩, y6, y7⟩ := z1
    have hTo := c_X12_told (w := w) (a := a2) (nm := nm) (M := M) hfa y1 y3 (rfl : v2 63 = v2 63)
    have zq := rsF_q z2
    by_cases hz : rd_fa S = 0
    · rw [if_pos hz, if_pos hz] at hTo
      have hF1 : rqF (sl_u (sl_u v 53 (nI 1)) 52 (nI how)) a (rf_gd v2 0) a2 := rqF_t zq (rqF_v (gd_v v2 0))
      have := hQ (rf_gd v2 0) a2 (by unfold an_stt; rw [if_pos hz]; rfl) (by rw [if_pos hz]; rfl) ((hF1.1 _ (by decide)).trans rfl) (ftold_F hT0 hF1) hF1 (z2.1 _ (by decide))
      unfold an_steps at this
      rw [if_pos hz] at this
      refine slv_aload_n eX12_formula_105 rfl ?_
      refine slv_rV (As := []) eX12_formula_106 lX12_527 rfl rfl rf_68 rfl hTo (by decide) (Nat.le_of_ble_eq_true rfl) ?_
      refine slv_iret eX12_formula_109 rfl ?_
      exact this
    · rw [if_neg hz, if_neg hz] at hTo
      have hF1 : rqF (sl_u (sl_u v 53 (nI 1)) 52 (nI how)) a (sl_u (rf_gd v2 6) 2 (v2 63)) a2 := rqF_t zq (rqF_v (fun k hk => by rw [sl_u_ne (fun e => hk (by rw [e]; decide))]; exact gd_v v2 6 k hk))
      have := hQ _ a2 (by unfold an_stt; rw [if_neg hz]; rfl) (by rw [if_neg hz]; exact y2 hz) ((hF1.1 _ (by decide)).trans rfl) (ftold_F hT0 hF1) hF1 (z2.1 _ (by decide))
      unfold an_steps at this
      rw [if_neg hz] at this
      refine slv_aload_n eX12_formula_105 rfl ?_
      refine slv_rV (As := []) eX12_formula_106 lX12_527 rfl rfl rf_68 rfl hTo (by decide) (Nat.le_of_ble_eq_true rfl) ?_
      refine slv_iret eX12_formula_109 rfl ?_
      exact this
  refine slv_aload_n eX12_formula_90 rfl ?_
  refine slv_iconst (v := nI 1) eX12_formula_91 (by decide) ?_
  refine slr_pz eX12_formula_92 fX12_336 (Nat.le_of_ble_eq_true rfl) rfl rfl rf_s53 ?_
  refine slv_aload_n eX12_formula_95 rfl ?_
  refine slv_iload_n eX12_formula_96 rfl ?_
  refine slr_pi eX12_formula_97 fX12_521 (Nat.le_of_ble_eq_true rfl) rf_s52 ?_
  refine slv_aload_n eX12_formula_100 rfl ?_
  refine slv_iload_n eX12_formula_101 rfl ?_
  refine slv_callV (As := [_]) eX12_formula_102 lX12_524 rfl rfl rf_68 rfl hRB (by decide) (Nat.le_of_ble_eq_true rfl) (Nat.zero_add _).symm (Nat.zero_add _).symm (Or.inl rfl) ?_
  rintro _ _ ⟨rfl, v2, a2, rfl, z1, z2⟩
  exact aft v2 a2 z1 z2
/-- what telling a formula may change besides -/
def fmF (v : Nat → Int32) (a : Nat → Nat → Int32) (v' : Nat → Int32) (a' : Nat → Nat → Int32) : Prop := (∀ k, k ∉ [0, 1, 2, 61, 64, 65, 77, 78, 79, 80, 62, 63, 66, 29, 28, 51, 50, 53, 52] → v' k = v k) ∧ ∀ k, k ∉ [67, 68, 76, 69, 58, 55, 59, 70, 71, 72, 73, 74, 75, 57, 54, 56, 60, 47, 46, 48, 49] → a' k = a k
set_option maxRecDepth 100000 in
theorem c_X12_formula (h21 : v 21 = sl_bi sn) (hok : sg_ok g) (hst : sn = true → sg_str g) (hL : sn = true → rlaid g s rn rk kn nu v a) (hf28 : v 28 = nI fd) (hfd : fd ≤ 900) (h27 : a 27 = f) (hr : rd_rest S0) (x y : Int32) (sg pl : Nat → Nat) (rl : Nat → Bool) (bt : Nat → Int32) : sl_T YX12_formula 9 0 0 (fun r M' => match fq_ask sn fd s rn x y with
    | .inl k => r = some (.int (-1)) ∧ M' = rf_S (rf_an v k) w a nm M
    | .inr (ln, how) => r = some (.int (an_steps (rdS g ln (fs_all f ln ln (none, 0, 0, sg, pl, rl, bt)) s nu kn how S0))) ∧ ∃ v' a', M' = rf_S v' w a' nm M ∧ v' 1 = nI (an_stt (rdS g ln (fs_all f ln ln (none, 0, 0, sg, pl, rl, bt)) s nu kn how S0)) ∧ v' 2 = (if rd_fa (rdS g ln (fs_all f ln ln (none, 0, 0, sg, pl, rl, bt)) s nu kn how S0) = 0 then -1 else rd_pl (rdS g ln (fs_all f ln ln (none, 0, 0, sg, pl, rl, bt)) s nu kn how S0)) ∧ v' 53 = nI 1 ∧ ftold g ln (fs_all f ln ln (none, 0, 0, sg, pl, rl, bt)) how v' a' ∧ v' 28 = nI 0 ∧ fmF v a v' a') [.ref 68, .int x, .int y] (rf_S v w a nm M) := by
  refine sl_T.of_V (lv := [_, _, _]) (by decide) rfl (Nat.le_of_ble_eq_true rfl) ?_
  unfold fq_ask
  have hin : (decide (nI 0 ≤ y) && decide (y ≤ nI 1)) = (sl_vi y 2).isSome := in_vi (n := 2) (by decide)
  have hI := c_X12_in (rf_S (sl_u v 0 (nI 0)) w a nm M) y (nI 0) (nI 1)
  rw [hin] at hI
  cases sn with
  | false =>
    refine slv_aload_n eX12_formula_0 rfl ?_
    refine slv_iconst (v := nI 0) eX12_formula_1 (by decide) ?_
    refine slr_pi eX12_formula_2 fX12_149 (Nat.le_of_ble_eq_true rfl) rf_s0 ?_
    refine slv_aload_n eX12_formula_5 rfl ?_
    refine slr_gi eX12_formula_6 fX12_317 rfl h21 ?_
    refine slv_if_eqB eX12_formula_9 (fun h9 => ?_) (fun h9 => absurd h9 (by first | decide | (intro z; cases z)))
    refine slv_aload_n eX12_formula_21 rfl ?_
    refine slv_iconst (v := nI 1) eX12_formula_22 (by decide) ?_
    refine slv_rV (As := [_]) eX12_formula_23 lX12_155 rfl rfl rf_68 rfl (c_X12_refused 1) (by decide) (Nat.le_of_ble_eq_true rfl) ?_
    refine slv_iret eX12_formula_26 rfl ?_
    exact ⟨rfl, rfl⟩
  | true =>
    have hL := hL rfl
    have hst := hst rfl
    have evr : sl_vr true y 2 = sl_vi y 2 := rfl
    rw [evr]
    cases hy : sl_vi y 2 with
    | none =>
      rw [hy] at hI
      refine slv_aload_n eX12_formula_0 rfl ?_
      refine slv_iconst (v := nI 0) eX12_formula_1 (by decide) ?_
      refine slr_pi eX12_formula_2 fX12_149 (Nat.le_of_ble_eq_true rfl) rf_s0 ?_
      refine slv_aload_n eX12_formula_5 rfl ?_
      refine slr_gi eX12_formula_6 fX12_317 rfl h21 ?_
      refine slv_if_eqB eX12_formula_9 (fun h9 => absurd h9 (by first | decide | (intro z; cases z))) (fun h9 => ?_)
      refine slv_iload_n eX12_formula_12 rfl ?_
      refine slv_iconst (v := nI 0) eX12_formula_13 (by decide) ?_
      refine slv_iconst (v := nI 1) eX12_formula_14 (by decide) ?_
      refine slv_rS (As := [_, _, _]) eX12_formula_15 lX12_180 rfl rfl hI (by decide) (Nat.le_of_ble_eq_true rfl) ?_
      refine slv_if_neB eX12_formula_18 (fun h18 => absurd h18 (by first | decide | (intro z; cases z))) (fun h18 => ?_)
      refine slv_aload_n eX12_formula_21 rfl ?_
      refine slv_iconst (v := nI 1) eX12_formula_22 (by decide) ?_
      refine slv_rV (As := [_]) eX12_formula_23 lX12_155 rfl rfl rf_68 rfl (c_X12_refused 1) (by decide) (Nat.le_of_ble_eq_true rfl) ?_
      refine slv_iret eX12_formula_26 rfl ?_
      exact ⟨rfl, rfl⟩
    | some how =>
      rw [hy] at hI
      obtain ⟨ey, hh⟩ := vi_some hy
      cases hx : sl_vi x (fd + 1) with
      | none =>
        by_cases hx0 : x < 0
        · refine slv_aload_n eX12_formula_0 rfl ?_
          refine slv_iconst (v := nI 0) eX12_formula_1 (by decide) ?_
          refine slr_pi eX12_formula_2 fX12_149 (Nat.le_of_ble_eq_true rfl) rf_s0 ?_
          refine slv_aload_n eX12_formula_5 rfl ?_
          refine slr_gi eX12_formula_6 fX12_317 rfl h21 ?_
          refine slv_if_eqB eX12_formula_9 (fun h9 => absurd h9 (by first | decide | (intro z; cases z))) (fun h9 => ?_)
          refine slv_iload_n eX12_formula_12 rfl ?_
          refine slv_iconst (v := nI 0) eX12_formula_13 (by decide) ?_
          refine slv_iconst (v := nI 1) eX12_formula_14 (by decide) ?_
          refine slv_rS (As := [_, _, _]) eX12_formula_15 lX12_180 rfl rfl hI (by decide) (Nat.le_of_ble_eq_true rfl) ?_
          refine slv_if_neB eX12_formula_18 (fun h18 => ?_) (fun h18 => absurd h18 (by first | decide | (intro z; cases z)))
          refine slv_iload_n eX12_formula_27 rfl ?_
          refine slv_if_lt eX12_formula_28 (fun h28 => ?_) (fun h28 => absurd hx0 h28)
          refine slv_aload_n eX12_formula_39 rfl ?_
          refine slv_iconst (v := nI 2) eX12_formula_40 (by decide) ?_
          refine slv_rV (As := [_]) eX12_formula_41 lX12_155 rfl rfl rf_68 rfl (c_X12_refused 2) (by decide) (Nat.le_of_ble_eq_true rfl) ?_
          refine slv_iret eX12_formula_44 rfl ?_
          exact ⟨rfl, rfl⟩
        · have hx1 : ¬ x ≤ nI fd := fun q => by
            rcases vi_lt (by omega) hx with c | c
            · exact hx0 c
            · exact c (vi_le1 (by omega) q)
          refine slv_aload_n eX12_formula_0 rfl ?_
          refine slv_iconst (v := nI 0) eX12_formula_1 (by decide) ?_
          refine slr_pi eX12_formula_2 fX12_149 (Nat.le_of_ble_eq_true rfl) rf_s0 ?_
          refine slv_aload_n eX12_formula_5 rfl ?_
          refine slr_gi eX12_formula_6 fX12_317 rfl h21 ?_
          refine slv_if_eqB eX12_formula_9 (fun h9 => absurd h9 (by first | decide | (intro z; cases z))) (fun h9 => ?_)
          refine slv_iload_n eX12_formula_12 rfl ?_
          refine slv_iconst (v := nI 0) eX12_formula_13 (by decide) ?_
          refine slv_iconst (v := nI 1) eX12_formula_14 (by decide) ?_
          refine slv_rS (As := [_, _, _]) eX12_formula_15 lX12_180 rfl rfl hI (by decide) (Nat.le_of_ble_eq_true rfl) ?_
          refine slv_if_neB eX12_formula_18 (fun h18 => ?_) (fun h18 => absurd h18 (by first | decide | (intro z; cases z)))
          refine slv_iload_n eX12_formula_27 rfl ?_
          refine slv_if_lt eX12_formula_28 (fun h28 => absurd h28 hx0) (fun h28 => ?_)
          refine slv_iload_n eX12_formula_31 rfl ?_
          refine slv_aload_n eX12_formula_32 rfl ?_
          refine slr_gi eX12_formula_33 fX12_302 rfl hf28 ?_
          refine slv_icmp_le eX12_formula_36 (fun h36 => absurd h36 hx1) (fun h36 => ?_)
          refine slv_aload_n eX12_formula_39 rfl ?_
          refine slv_iconst (v := nI 2) eX12_formula_40 (by decide) ?_
          refine slv_rV (As := [_]) eX12_formula_41 lX12_155 rfl rfl rf_68 rfl (c_X12_refused 2) (by decide) (Nat.le_of_ble_eq_true rfl) ?_
          refine slv_iret eX12_formula_44 rfl ?_
          exact ⟨rfl, rfl⟩
      | some ln =>
        obtain ⟨ex, hln⟩ := vi_some hx
        subst ey ex
        have hrn : rn < 1000 := by have := hL.2.2.1.2.2.2.2.1; omega
        have hCan := c_X12_canRead (v := sl_u v 0 (nI 0)) (w := w) (a := a) (nm := nm) (M := M) (s := s) (how := how) hok.2.2.2.1 hL.1.2.2.1 (fun i _ => by rw [hL.2.1]) hL.2.2.2.1 hrn hL.2.2.1.1 hh
        have hx0 : ¬ nI ln < 0 := vi_neg (by omega)
        dsimp only
        cases hcan : an_can s rn how with
        | false =>
          rw [hcan] at hCan
          refine slv_aload_n eX12_formula_0 rfl ?_
          refine slv_iconst (v := nI 0) eX12_formula_1 (by decide) ?_
          refine slr_pi eX12_formula_2 fX12_149 (Nat.le_of_ble_eq_true rfl) rf_s0 ?_
          refine slv_aload_n eX12_formula_5 rfl ?_
          refine slr_gi eX12_formula_6 fX12_317 rfl h21 ?_
          refine slv_if_eqB eX12_formula_9 (fun h9 => absurd h9 (by first | decide | (intro z; cases z))) (fun h9 => ?_)
          refine slv_iload_n eX12_formula_12 rfl ?_
          refine slv_iconst (v := nI 0) eX12_formula_13 (by decide) ?_
          refine slv_iconst (v := nI 1) eX12_formula_14 (by decide) ?_
          refine slv_rS (As := [_, _, _]) eX12_formula_15 lX12_180 rfl rfl hI (by decide) (Nat.le_of_ble_eq_true rfl) ?_
          refine slv_if_neB eX12_formula_18 (fun h18 => ?_) (fun h18 => absurd h18 (by first | decide | (intro z; cases z)))
          refine slv_iload_n eX12_formula_27 rfl ?_
          refine slv_if_lt eX12_formula_28 (fun h28 => absurd h28 hx0) (fun h28 => ?_)
          refine slv_iload_n eX12_formula_31 rfl ?_
          refine slv_aload_n eX12_formula_32 rfl ?_
          refine slr_gi eX12_formula_33 fX12_302 rfl hf28 ?_
          refine slv_icmp_leN eX12_formula_36 (by omega) (by omega) (fun h36 => ?_) (fun h36 => absurd h36 (by omega))
          refine slv_aload_n eX12_formula_45 rfl ?_
          refine slv_iload_n eX12_formula_46 rfl ?_
          refine slv_rV (As := [_]) eX12_formula_47 lX12_515 rfl rfl rf_68 rfl hCan (by decide) (Nat.le_of_ble_eq_true rfl) ?_
          refine slv_if_neB eX12_formula_50 (fun h50 => absurd h50 (by first | decide | (intro z; cases z))) (fun h50 => ?_)
          refine slv_aload_n eX12_formula_53 rfl ?_
          refine slv_iconst (v := nI 5) eX12_formula_54 (by decide) ?_
          refine slv_rV (As := [_]) eX12_formula_55 lX12_155 rfl rfl rf_68 rfl (c_X12_refused 5) (by decide) (Nat.le_of_ble_eq_true rfl) ?_
          refine slv_iret eX12_formula_58 rfl ?_
          exact ⟨rfl, rfl⟩
        | true =>
          rw [hcan] at hCan
          have e1 : ∀ k, k ∈ [14, 15, 16, 22, 23, 44] → (sl_u (sl_u (sl_u v 0 (nI 0)) 29 (nI ln)) 28 (nI 0)) k = v k := fun k hk => by
            rw [sl_u_ne (fun e => by rw [e] at hk; revert hk; decide), sl_u_ne (fun e => by rw [e] at hk; revert hk; decide), sl_u_ne (fun e => by rw [e] at hk; revert hk; decide)]
          have hL1 := rlaid_F (a' := a) hL e1 (fun _ _ => rfl)
          have hSc := c_X12_scans (v := sl_u (sl_u (sl_u v 0 (nI 0)) 29 (nI ln)) 28 (nI 0)) (w := w) (nm := nm) (M := M) h27 rfl (show ln ≤ 900 by omega) hok hL1.1 sg pl rl bt
          have hqo := fs_all_ok (f := f) (ln := ln) (show ln ≤ 900 by omega) ln (none, 0, 0, sg, pl, rl, bt) (Nat.zero_le _) (Nat.zero_le _) (fun k q => by cases q)
          have hqP := fs_all_P (f := f) (ln := ln) ln (none, 0, 0, sg, pl, rl, bt) (fun j hj => absurd hj (Nat.not_lt_zero j))
          dsimp only [cond_true]
          generalize fs_all f ln ln (none, 0, 0, sg, pl, rl, bt) = q at *
          have aft : ∀ v1 a1, scF (sl_u (sl_u (sl_u v 0 (nI 0)) 29 (nI ln)) 28 (nI 0)) a v1 a1 → (q.1 = none → tkI g q v1 a1 ∧ a1 46 q.2.1 = nI (sg_terms g) ∧ a1 47 q.2.1 = nI ln) → sl_V YX12_formula none 9 0 0 (fun r M' => r = some (.int (an_steps (rdS g ln q s nu kn how S0))) ∧ ∃ v' a', M' = rf_S v' w a' nm M ∧ v' 1 = nI (an_stt (rdS g ln q s nu kn how S0)) ∧ v' 2 = (if rd_fa (rdS g ln q s nu kn how S0) = 0 then -1 else rd_pl (rdS g ln q s nu kn how S0)) ∧ v' 53 = nI 1 ∧ ftold g ln q how v' a' ∧ v' 28 = nI 0 ∧ fmF v a v' a') 77 [some (.ref 68), some (.int (nI ln)), some (.int (nI how))] [] (rf_S (sl_u v1 51 (sl_io q.1)) w a1 nm M) := by
            intro v1 a1 z1 z2
            have fin : ∀ v2, (∀ k, k ∉ [51, 50] → v2 k = v1 k) → v2 51 = sl_io q.1 → v2 50 = nI (if q.1 = none then q.2.1 else 0) → sl_V YX12_formula none 9 0 0 (fun r M' => r = some (.int (an_steps (rdS g ln q s nu kn how S0))) ∧ ∃ v' a', M' = rf_S v' w a' nm M ∧ v' 1 = nI (an_stt (rdS g ln q s nu kn how S0)) ∧ v' 2 = (if rd_fa (rdS g ln q s nu kn how S0) = 0 then -1 else rd_pl (rdS g ln q s nu kn how S0)) ∧ v' 53 = nI 1 ∧ ftold g ln q how v' a' ∧ v' 28 = nI 0 ∧ fmF v a v' a') 90 [some (.ref 68), some (.int (nI ln)), some (.int (nI how))] [] (rf_S v2 w a1 nm M) := by
              intro v2 k1 k2 k3
              have hL2 : rlaid g s rn rk kn nu v2 a1 := rlaid_F hL (fun k hk => by
                rw [k1 k (fun e => by simp only [List.mem_cons, List.mem_nil_iff, or_false] at hk e; omega), z1.1 k (fun e => by simp only [List.mem_cons, List.mem_nil_iff, or_false] at hk e; omega)]
                exact e1 k hk) (fun k hk => z1.2 k (fun e => by simp only [List.mem_cons, List.mem_nil_iff, or_false] at hk e; omega))
              refine fm_90 hok hst hL2 ⟨k2, fun hn => rxE_t hn (show tkI g q v1 a1 from (z2 hn).1) (z2 hn).2.1 (z2 hn).2.2⟩ k3 hqo.1 hqP (fun k hk => by have := hqo.2.2 k hk; omega) hh (an_can_1 hcan) hr (fun v' a' y1 y2 y3 y4 y5 y6 => ⟨rfl, v', a', rfl, y1, y2, y3, y4, ?_, ?_⟩)
              · rw [y5.1 _ (by decide), sl_u_ne (by decide), sl_u_ne (by decide), k1 _ (by decide), z1.1 _ (by decide)]
                exact sl_u_eq
              · refine ⟨fun k hk => ?_, fun k hk => ?_⟩
                · rw [y5.1 k (fun e => hk (by simp only [List.mem_cons, List.mem_nil_iff, or_false] at e ⊢; omega)), sl_u_ne (fun e => hk (by rw [e]; decide)), sl_u_ne (fun e => hk (by rw [e]; decide)), k1 k (fun e => hk (by simp only [List.mem_cons, List.mem_nil_iff, or_false] at e ⊢; omega)), z1.1 k (fun e => hk (by simp only [List.mem_cons, List.mem_nil_iff, or_false] at e ⊢; omega)), sl_u_ne (fun e => hk (by rw [e]; decide)), sl_u_ne (fun e => hk (by rw [e]; decide)), sl_u_ne (fun e => hk (by rw [e]; decide))]
                · rw [y5.2 k (fun e => hk (by simp only [List.mem_cons, List.mem_nil_iff, or_false] at e ⊢; omega)), z1.2 k (fun e => hk (by simp only [List.mem_cons, List.mem_nil_iff, or_false] at e ⊢; omega))]
            cases hq : q.1 with
            | none =>
              rw [hq] at fin
              have f1 := fin (sl_u v1 51 (sl_io none)) (fun k hk => sl_u_ne (fun e => hk (by rw [e]; decide))) sl_u_eq (by rw [if_pos rfl, sl_u_ne (by decide)]; exact (z2 hq).1.1)
              refine slv_aload_n eX12_formula_77 rfl ?_
              refine slr_gi eX12_formula_78 fX12_509 rfl (by repeat (first | exact sl_u_eq | assumption | apply rf_ne (by decide) | exact rfl)) ?_
              refine slv_iconst (v := (-1)) eX12_formula_81 (by decide) ?_
              refine slv_icmp_eq eX12_formula_82 (fun h82 => ?_) (fun h82 => absurd rfl h82)
              exact f1
            | some p =>
              rw [hq] at fin
              have hp : nI p ≠ -1 := nI_neg1 (by have := hqo.2.2 p hq; omega)
              have f1 := fin (sl_u (sl_u v1 51 (sl_io (some p))) 50 (nI 0)) (fun k hk => by rw [sl_u_ne (fun e => hk (by rw [e]; decide)), sl_u_ne (fun e => hk (by rw [e]; decide))]) (by rw [sl_u_ne (by decide)]; exact sl_u_eq) (by rw [if_neg (by intro z; cases z)]; exact sl_u_eq)
              refine slv_aload_n eX12_formula_77 rfl ?_
              refine slr_gi eX12_formula_78 fX12_509 rfl (by repeat (first | exact sl_u_eq | assumption | apply rf_ne (by decide) | exact rfl)) ?_
              refine slv_iconst (v := (-1)) eX12_formula_81 (by decide) ?_
              refine slv_icmp_eq eX12_formula_82 (fun h82 => absurd h82 hp) (fun h82 => ?_)
              refine slv_aload_n eX12_formula_85 rfl ?_
              refine slv_iconst (v := nI 0) eX12_formula_86 (by decide) ?_
              refine slr_pi eX12_formula_87 fX12_417 (Nat.le_of_ble_eq_true rfl) rf_s50 ?_
              exact f1
          refine slv_aload_n eX12_formula_0 rfl ?_
          refine slv_iconst (v := nI 0) eX12_formula_1 (by decide) ?_
          refine slr_pi eX12_formula_2 fX12_149 (Nat.le_of_ble_eq_true rfl) rf_s0 ?_
          refine slv_aload_n eX12_formula_5 rfl ?_
          refine slr_gi eX12_formula_6 fX12_317 rfl h21 ?_
          refine slv_if_eqB eX12_formula_9 (fun h9 => absurd h9 (by first | decide | (intro z; cases z))) (fun h9 => ?_)
          refine slv_iload_n eX12_formula_12 rfl ?_
          refine slv_iconst (v := nI 0) eX12_formula_13 (by decide) ?_
          refine slv_iconst (v := nI 1) eX12_formula_14 (by decide) ?_
          refine slv_rS (As := [_, _, _]) eX12_formula_15 lX12_180 rfl rfl hI (by decide) (Nat.le_of_ble_eq_true rfl) ?_
          refine slv_if_neB eX12_formula_18 (fun h18 => ?_) (fun h18 => absurd h18 (by first | decide | (intro z; cases z)))
          refine slv_iload_n eX12_formula_27 rfl ?_
          refine slv_if_lt eX12_formula_28 (fun h28 => absurd h28 hx0) (fun h28 => ?_)
          refine slv_iload_n eX12_formula_31 rfl ?_
          refine slv_aload_n eX12_formula_32 rfl ?_
          refine slr_gi eX12_formula_33 fX12_302 rfl hf28 ?_
          refine slv_icmp_leN eX12_formula_36 (by omega) (by omega) (fun h36 => ?_) (fun h36 => absurd h36 (by omega))
          refine slv_aload_n eX12_formula_45 rfl ?_
          refine slv_iload_n eX12_formula_46 rfl ?_
          refine slv_rV (As := [_]) eX12_formula_47 lX12_515 rfl rfl rf_68 rfl hCan (by decide) (Nat.le_of_ble_eq_true rfl) ?_
          refine slv_if_neB eX12_formula_50 (fun h50 => ?_) (fun h50 => absurd h50 (by first | decide | (intro z; cases z)))
          refine slv_aload_n eX12_formula_59 rfl ?_
          refine slv_iload_n eX12_formula_60 rfl ?_
          refine slr_pi eX12_formula_61 fX12_162 (Nat.le_of_ble_eq_true rfl) rf_s29 ?_
          refine slv_aload_n eX12_formula_64 rfl ?_
          refine slv_iconst (v := nI 0) eX12_formula_65 (by decide) ?_
          refine slr_pi eX12_formula_66 fX12_302 (Nat.le_of_ble_eq_true rfl) rf_s28 ?_
          refine slv_aload_n eX12_formula_69 rfl ?_
          refine slv_aload_n eX12_formula_70 rfl ?_
          refine slv_callV (As := []) eX12_formula_71 lX12_518 rfl rfl rf_68 rfl hSc (by decide) (Nat.le_of_ble_eq_true rfl) (Nat.zero_add _).symm (Nat.zero_add _).symm (Or.inl rfl) ?_
          rintro _ _ ⟨rfl, v1, a1, rfl, z1, z2⟩
          refine slr_pi eX12_formula_74 fX12_509 (Nat.le_of_ble_eq_true rfl) rf_s51 ?_
          exact aft v1 a1 z1 z2
end RFU
