/-! the reference: otherwise, later -/
def oq_ask (tl : Bool) (s : Nat → Int32) (rn how : Nat) : Option Nat := cond tl (cond (an_can s rn (1 - how)) none (some 5)) (some 1)
def lq_ask (tl : Bool) (s : Nat → Int32) (rn : Nat) : Option Nat := cond tl (cond (an_can s rn 0 && an_can s rn 1) none (some 5)) (some 1)
section RQC
variable {v : Nat → Int32} {w : Int64} {a : Nat → Nat → Int32} {nm : Nat → Int64} {M : sl_M} {g : sg_T} {s : Nat → Int32} {rn : Nat} {rk kn nu : Nat → Nat} {ln how : Nat} {q : fs_T} {S0 S S1 S2 : rd_T} {sn tl : Bool}
/-- by whatever way -/
theorem rq_by2 {ho : Nat} (h : rqH g s rn rk kn nu ln q how S0 S v a) (hh : ho < 2) (h0 : ho = 1 → rn = 0) (hr : rd_rest S1) : sl_T YX12_readsBy 8 0 0 (fun o M' => o = none ∧ ∃ v' a', M' = rf_S v' w a' nm M ∧ rqR (rdS g ln q s nu kn ho S1) v' a' ∧ rsF v a v' a') [.ref 68, .int (nI ho)] (rf_S v w a nm M) := by
  obtain ⟨h1, h2, h3, h4, h5, h6, h7, h8, h9, h10, h11⟩ := h
  exact rd_by h1 h2 h3 ⟨h4.2.1, h4.2.2.2⟩ h5 h6 (fun k hk => by have := h7 k hk; omega) hh h0 hr
theorem rq_can {ho : Nat} (h : rqH g s rn rk kn nu ln q how S0 S v a) (hh : ho < 2) : sl_R YX12_canRead 2 [.ref 68, .int (nI ho)] (rf_S v w a nm M) (some (.int (sl_bi (an_can s rn ho)))) (rf_S v w a nm M) := by
  have hL := h.2.2.1
  have hrn : rn < 1000 := by have := hL.2.2.1.2.2.2.2.1; omega
  exact c_X12_canRead h.1.2.2.2.1 hL.1.2.2.1 (fun i _ => by rw [hL.2.1]) hL.2.2.2.1 hrn hL.2.2.1.1 hh
set_option maxRecDepth 100000 in
theorem c_X12_otherwise (h21 : v 21 = sl_bi sn) (h24 : v 53 = sl_bi tl) (hts : tl = true → sn = true) (hH : tl = true → rqH g s rn rk kn nu ln q how S0 S v a) (hr : rd_rest S1) : sl_T YX12_otherwise 9 0 0 (fun r M' => match oq_ask tl s rn how with
    | some k => qA v w a nm M (-1, k) r M'
    | none => r = some (.int (an_steps (rdS g ln q s nu kn (1 - how) S1))) ∧ ∃ v' a', M' = rf_S v' w a' nm M ∧ v' 1 = nI (an_stt (rdS g ln q s nu kn (1 - how) S1)) ∧ v' 2 = (if rd_fa (rdS g ln q s nu kn (1 - how) S1) = 0 then -1 else rd_pl (rdS g ln q s nu kn (1 - how) S1)) ∧ rqF v a v' a') [.ref 68] (rf_S v w a nm M) := by
  have hA := c_X12_isAsked (v := sl_u v 0 (nI 0)) (w := w) (a := a) (nm := nm) (M := M) h21 h24 hts (nI 0) (nI 0)
  rw [in_00] at hA
  refine sl_T.of_V (lv := [_]) (by decide) rfl (Nat.le_of_ble_eq_true rfl) ?_
  unfold oq_ask
  have F0 := rqF_0 v a (nI 0)
  cases tl with
  | false =>
    refine slv_aload_n eX12_otherwise_0 rfl ?_
    refine slv_iconst (v := nI 0) eX12_otherwise_1 (by decide) ?_
    refine slr_pi eX12_otherwise_2 fX12_149 (Nat.le_of_ble_eq_true rfl) rf_s0 ?_
    refine slv_aload_n eX12_otherwise_5 rfl ?_
    refine slv_iconst (v := nI 0) eX12_otherwise_6 (by decide) ?_
    refine slv_iconst (v := nI 0) eX12_otherwise_7 (by decide) ?_
    refine slv_rV (As := [_, _]) eX12_otherwise_8 lX12_530 rfl rfl rf_68 rfl hA (by decide) (Nat.le_of_ble_eq_true rfl) ?_
    refine slv_if_neB eX12_otherwise_11 (fun h11 => absurd h11 (by first | decide | (intro z; cases z))) (fun h11 => ?_)
    refine slv_aload_n eX12_otherwise_14 rfl ?_
    refine slv_iconst (v := nI 1) eX12_otherwise_15 (by decide) ?_
    refine slv_rV (As := [_]) eX12_otherwise_16 lX12_155 rfl rfl rf_68 rfl (c_X12_refused 1) (by decide) (Nat.le_of_ble_eq_true rfl) ?_
    refine slv_iret eX12_otherwise_19 rfl ?_
    exact qA_1 1 F0
  | true =>
    have hH := rqH_F (hH rfl) F0
    have hh := hH.2.2.2.2.2.2.2.1
    have ghow := hH.2.2.2.1.1
    have hCan := rq_can (w := w) (nm := nm) (M := M) (ho := 1 - how) hH (by omega)
    simp only [cond_true]
    cases hcan : an_can s rn (1 - how) with
    | false =>
      rw [hcan] at hCan
      refine slv_aload_n eX12_otherwise_0 rfl ?_
      refine slv_iconst (v := nI 0) eX12_otherwise_1 (by decide) ?_
      refine slr_pi eX12_otherwise_2 fX12_149 (Nat.le_of_ble_eq_true rfl) rf_s0 ?_
      refine slv_aload_n eX12_otherwise_5 rfl ?_
      refine slv_iconst (v := nI 0) eX12_otherwise_6 (by decide) ?_
      refine slv_iconst (v := nI 0) eX12_otherwise_7 (by decide) ?_
      refine slv_rV (As := [_, _]) eX12_otherwise_8 lX12_530 rfl rfl rf_68 rfl hA (by decide) (Nat.le_of_ble_eq_true rfl) ?_
      refine slv_if_neB eX12_otherwise_11 (fun h11 => ?_) (fun h11 => absurd h11 (by first | decide | (intro z; cases z)))
      refine slv_aload_n eX12_otherwise_20 rfl ?_
      refine slv_iconst (v := nI 1) eX12_otherwise_21 (by decide) ?_
      refine slv_aload_n eX12_otherwise_22 rfl ?_
      refine slr_gi eX12_otherwise_23 fX12_521 rfl ghow ?_
      refine slv_isubN eX12_otherwise_26 (by omega) ?_
      refine slv_rV (As := [_]) eX12_otherwise_27 lX12_515 rfl rfl rf_68 rfl hCan (by decide) (Nat.le_of_ble_eq_true rfl) ?_
      refine slv_if_neB eX12_otherwise_30 (fun h30 => absurd h30 (by first | decide | (intro z; cases z))) (fun h30 => ?_)
      refine slv_aload_n eX12_otherwise_33 rfl ?_
      refine slv_iconst (v := nI 5) eX12_otherwise_34 (by decide) ?_
      refine slv_rV (As := [_]) eX12_otherwise_35 lX12_155 rfl rfl rf_68 rfl (c_X12_refused 5) (by decide) (Nat.le_of_ble_eq_true rfl) ?_
      refine slv_iret eX12_otherwise_38 rfl ?_
      exact qA_1 5 F0
    | true =>
      rw [hcan] at hCan
      have hRB := rq_by2 (w := w) (nm := nm) (M := M) (ho := 1 - how) hH (by omega) (an_can_1 hcan) hr
      have hfa := rdS_fa (g := g) (ln := ln) (s := s) (nu := nu) (kn := kn) (how := 1 - how) (S0 := S1) (q := q)
      simp only [cond_true]
      generalize rdS g ln q s nu kn (1 - how) S1 = T at *
      have aft : ∀ v2 a2, rqR T v2 a2 → rsF (sl_u v 0 (nI 0)) a v2 a2 → sl_V YX12_otherwise none 9 0 0 (fun r M' => r = some (.int (an_steps T)) ∧ ∃ v' a', M' = rf_S v' w a' nm M ∧ v' 1 = nI (an_stt T) ∧ v' 2 = (if rd_fa T = 0 then -1 else rd_pl T) ∧ rqF v a v' a') 49 [some (.ref 68)] [] (rf_S v2 w a2 nm M) := by
        intro v2 a2 z1 z2
        obtain ⟨⟨y1, y2, y3, y4, y5⟩, y6, y7⟩ := z1
        have hTo := c_X12_told (w := w) (a := a2) (nm := nm) (M := M) hfa y1 y3 (rfl : v2 63 = v2 63)
        have zq := rqF_t F0 (rsF_q z2)
        unfold an_steps an_stt
        by_cases hz : rd_fa T = 0
        · rw [if_pos hz, if_pos hz] at hTo
          rw [if_pos hz, if_pos hz, if_pos hz]
          refine slv_aload_n eX12_otherwise_49 rfl ?_
          refine slv_rV (As := []) eX12_otherwise_50 lX12_527 rfl rfl rf_68 rfl hTo (by decide) (Nat.le_of_ble_eq_true rfl) ?_
          refine slv_iret eX12_otherwise_53 rfl ?_
          exact ⟨rfl, _, _, rfl, rfl, rfl, rqF_t zq (rqF_v (gd_v v2 0))⟩
        · rw [if_neg hz, if_neg hz] at hTo
          rw [if_neg hz, if_neg hz, if_neg hz]
          refine slv_aload_n eX12_otherwise_49 rfl ?_
          refine slv_rV (As := []) eX12_otherwise_50 lX12_527 rfl rfl rf_68 rfl hTo (by decide) (Nat.le_of_ble_eq_true rfl) ?_
          refine slv_iret eX12_otherwise_53 rfl ?_
          exact ⟨rfl, _, _, rfl, rfl, y2 hz, rqF_t zq (rqF_v (fun k hk => by rw [sl_u_ne (fun e => hk (by rw [e]; decide))]; exact gd_v v2 6 k hk))⟩
      refine slv_aload_n eX12_otherwise_0 rfl ?_
      refine slv_iconst (v := nI 0) eX12_otherwise_1 (by decide) ?_
      refine slr_pi eX12_otherwise_2 fX12_149 (Nat.le_of_ble_eq_true rfl) rf_s0 ?_
      refine slv_aload_n eX12_otherwise_5 rfl ?_
      refine slv_iconst (v := nI 0) eX12_otherwise_6 (by decide) ?_
      refine slv_iconst (v := nI 0) eX12_otherwise_7 (by decide) ?_
      refine slv_rV (As := [_, _]) eX12_otherwise_8 lX12_530 rfl rfl rf_68 rfl hA (by decide) (Nat.le_of_ble_eq_true rfl) ?_
      refine slv_if_neB eX12_otherwise_11 (fun h11 => ?_) (fun h11 => absurd h11 (by first | decide | (intro z; cases z)))
      refine slv_aload_n eX12_otherwise_20 rfl ?_
      refine slv_iconst (v := nI 1) eX12_otherwise_21 (by decide) ?_
      refine slv_aload_n eX12_otherwise_22 rfl ?_
      refine slr_gi eX12_otherwise_23 fX12_521 rfl ghow ?_
      refine slv_isubN eX12_otherwise_26 (by omega) ?_
      refine slv_rV (As := [_]) eX12_otherwise_27 lX12_515 rfl rfl rf_68 rfl hCan (by decide) (Nat.le_of_ble_eq_true rfl) ?_
      refine slv_if_neB eX12_otherwise_30 (fun h30 => ?_) (fun h30 => absurd h30 (by first | decide | (intro z; cases z)))
      refine slv_aload_n eX12_otherwise_39 rfl ?_
      refine slv_iconst (v := nI 1) eX12_otherwise_40 (by decide) ?_
      refine slv_aload_n eX12_otherwise_41 rfl ?_
      refine slr_gi eX12_otherwise_42 fX12_521 rfl ghow ?_
      refine slv_isubN eX12_otherwise_45 (by omega) ?_
      refine slv_callV (As := [_]) eX12_otherwise_46 lX12_524 rfl rfl rf_68 rfl hRB (by decide) (Nat.le_of_ble_eq_true rfl) (Nat.zero_add _).symm (Nat.zero_add _).symm (Or.inl rfl) ?_
      rintro _ _ ⟨rfl, v2, a2, rfl, z1, z2⟩
      exact aft v2 a2 z1 z2
set_option maxRecDepth 100000 in
theorem c_X12_later (h21 : v 21 = sl_bi sn) (h24 : v 53 = sl_bi tl) (hts : tl = true → sn = true) (hH : tl = true → rqH g s rn rk kn nu ln q how S0 S v a) (hr1 : rd_rest S1) (hr2 : rd_rest S2) : sl_T YX12_later 9 0 0 (fun r M' => match lq_ask tl s rn with
    | some k => qA v w a nm M (-1, k) r M'
    | none => qA v w a nm M (nI (rd_sp (rdS g ln q s nu kn 1 S2)) - nI (rd_sp (rdS g ln q s nu kn 0 S1)), 0) r M') [.ref 68] (rf_S v w a nm M) := by
  have hA := c_X12_isAsked (v := sl_u v 0 (nI 0)) (w := w) (a := a) (nm := nm) (M := M) h21 h24 hts (nI 0) (nI 0)
  rw [in_00] at hA
  refine sl_T.of_V (lv := [_, _]) (by decide) rfl (Nat.le_of_ble_eq_true rfl) ?_
  unfold lq_ask
  have F0 := rqF_0 v a (nI 0)
  cases tl with
  | false =>
    refine slv_aload_n eX12_later_0 rfl ?_
    refine slv_iconst (v := nI 0) eX12_later_1 (by decide) ?_
    refine slr_pi eX12_later_2 fX12_149 (Nat.le_of_ble_eq_true rfl) rf_s0 ?_
    refine slv_aload_n eX12_later_5 rfl ?_
    refine slv_iconst (v := nI 0) eX12_later_6 (by decide) ?_
    refine slv_iconst (v := nI 0) eX12_later_7 (by decide) ?_
    refine slv_rV (As := [_, _]) eX12_later_8 lX12_530 rfl rfl rf_68 rfl hA (by decide) (Nat.le_of_ble_eq_true rfl) ?_
    refine slv_if_neB eX12_later_11 (fun h11 => absurd h11 (by first | decide | (intro z; cases z))) (fun h11 => ?_)
    refine slv_aload_n eX12_later_14 rfl ?_
    refine slv_iconst (v := nI 1) eX12_later_15 (by decide) ?_
    refine slv_rV (As := [_]) eX12_later_16 lX12_155 rfl rfl rf_68 rfl (c_X12_refused 1) (by decide) (Nat.le_of_ble_eq_true rfl) ?_
    refine slv_iret eX12_later_19 rfl ?_
    exact qA_1 1 F0
  | true =>
    have hH := rqH_F (hH rfl) F0
    have hC0 := rq_can (w := w) (nm := nm) (M := M) (ho := 0) hH (by omega)
    have hC1 := rq_can (w := w) (nm := nm) (M := M) (ho := 1) hH (by omega)
    simp only [cond_true]
    cases hc0 : an_can s rn 0 with
    | false =>
      rw [hc0] at hC0
      refine slv_aload_n eX12_later_0 rfl ?_
      refine slv_iconst (v := nI 0) eX12_later_1 (by decide) ?_
      refine slr_pi eX12_later_2 fX12_149 (Nat.le_of_ble_eq_true rfl) rf_s0 ?_
      refine slv_aload_n eX12_later_5 rfl ?_
      refine slv_iconst (v := nI 0) eX12_later_6 (by decide) ?_
      refine slv_iconst (v := nI 0) eX12_later_7 (by decide) ?_
      refine slv_rV (As := [_, _]) eX12_later_8 lX12_530 rfl rfl rf_68 rfl hA (by decide) (Nat.le_of_ble_eq_true rfl) ?_
      refine slv_if_neB eX12_later_11 (fun h11 => ?_) (fun h11 => absurd h11 (by first | decide | (intro z; cases z)))
      refine slv_aload_n eX12_later_20 rfl ?_
      refine slv_iconst (v := nI 0) eX12_later_21 (by decide) ?_
      refine slv_rV (As := [_]) eX12_later_22 lX12_515 rfl rfl rf_68 rfl hC0 (by decide) (Nat.le_of_ble_eq_true rfl) ?_
      refine slv_if_eqB eX12_later_25 (fun h25 => ?_) (fun h25 => absurd h25 (by first | decide | (intro z; cases z)))
      refine slv_aload_n eX12_later_36 rfl ?_
      refine slv_iconst (v := nI 5) eX12_later_37 (by decide) ?_
      refine slv_rV (As := [_]) eX12_later_38 lX12_155 rfl rfl rf_68 rfl (c_X12_refused 5) (by decide) (Nat.le_of_ble_eq_true rfl) ?_
      refine slv_iret eX12_later_41 rfl ?_
      exact qA_1 5 F0
    | true =>
      rw [hc0] at hC0
      cases hc1 : an_can s rn 1 with
      | false =>
        rw [hc1] at hC1
        refine slv_aload_n eX12_later_0 rfl ?_
        refine slv_iconst (v := nI 0) eX12_later_1 (by decide) ?_
        refine slr_pi eX12_later_2 fX12_149 (Nat.le_of_ble_eq_true rfl) rf_s0 ?_
        refine slv_aload_n eX12_later_5 rfl ?_
        refine slv_iconst (v := nI 0) eX12_later_6 (by decide) ?_
        refine slv_iconst (v := nI 0) eX12_later_7 (by decide) ?_
        refine slv_rV (As := [_, _]) eX12_later_8 lX12_530 rfl rfl rf_68 rfl hA (by decide) (Nat.le_of_ble_eq_true rfl) ?_
        refine slv_if_neB eX12_later_11 (fun h11 => ?_) (fun h11 => absurd h11 (by first | decide | (intro z; cases z)))
        refine slv_aload_n eX12_later_20 rfl ?_
        refine slv_iconst (v := nI 0) eX12_later_21 (by decide) ?_
        refine slv_rV (As := [_]) eX12_later_22 lX12_515 rfl rfl rf_68 rfl hC0 (by decide) (Nat.le_of_ble_eq_true rfl) ?_
        refine slv_if_eqB eX12_later_25 (fun h25 => absurd h25 (by first | decide | (intro z; cases z))) (fun h25 => ?_)
        refine slv_aload_n eX12_later_28 rfl ?_
        refine slv_iconst (v := nI 1) eX12_later_29 (by decide) ?_
        refine slv_rV (As := [_]) eX12_later_30 lX12_515 rfl rfl rf_68 rfl hC1 (by decide) (Nat.le_of_ble_eq_true rfl) ?_
        refine slv_if_neB eX12_later_33 (fun h33 => absurd h33 (by first | decide | (intro z; cases z))) (fun h33 => ?_)
        refine slv_aload_n eX12_later_36 rfl ?_
        refine slv_iconst (v := nI 5) eX12_later_37 (by decide) ?_
        refine slv_rV (As := [_]) eX12_later_38 lX12_155 rfl rfl rf_68 rfl (c_X12_refused 5) (by decide) (Nat.le_of_ble_eq_true rfl) ?_
        refine slv_iret eX12_later_41 rfl ?_
        exact qA_1 5 F0
      | true =>
        rw [hc1] at hC1
        have hRB := rq_by2 (w := w) (nm := nm) (M := M) (ho := 0) hH (by omega) (fun e => by cases e) hr1
        have aft : ∀ v2 a2, rqR (rdS g ln q s nu kn 0 S1) v2 a2 → rsF (sl_u v 0 (nI 0)) a v2 a2 → sl_V YX12_later none 9 0 0 (qA v w a nm M (nI (rd_sp (rdS g ln q s nu kn 1 S2)) - nI (rd_sp (rdS g ln q s nu kn 0 S1)), 0)) 47 [some (.ref 68), none] [] (rf_S v2 w a2 nm M) := by
          intro v2 a2 z1 z2
          have y3 := z1.1.2.2.1
          have zq := rqF_t F0 (rsF_q z2)
          have hRB2 := rq_by2 (w := w) (nm := nm) (M := M) (ho := 1) (rqH_F hH (rsF_q z2)) (by omega) (an_can_1 hc1) hr2
          have aft2 : ∀ v3 a3, rqR (rdS g ln q s nu kn 1 S2) v3 a3 → rsF v2 a2 v3 a3 → sl_V YX12_later none 9 0 0 (qA v w a nm M (nI (rd_sp (rdS g ln q s nu kn 1 S2)) - nI (rd_sp (rdS g ln q s nu kn 0 S1)), 0)) 57 [some (.ref 68), some (.int (nI (rd_sp (rdS g ln q s nu kn 0 S1))))] [] (rf_S v3 w a3 nm M) := by
            intro v3 a3 z3 z4
            have y4 := z3.1.2.2.1
            have zq2 := rqF_t zq (rsF_q z4)
            refine slv_aload_n eX12_later_57 rfl ?_
            refine slv_aload_n eX12_later_58 rfl ?_
            refine slr_gi eX12_later_59 fX12_444 rfl (by repeat (first | exact sl_u_eq | assumption | apply rf_ne (by decide) | exact rfl)) ?_
            refine slv_iload_n eX12_later_62 rfl ?_
            refine slv_isub eX12_later_63 ?_
            refine slv_rV (As := [_]) eX12_later_64 lX12_314 rfl rfl rf_68 rfl (c_X12_good _) (by decide) (Nat.le_of_ble_eq_true rfl) ?_
            refine slv_iret eX12_later_67 rfl ?_
            exact qA_1 0 zq2
          refine slv_aload_n eX12_later_47 rfl ?_
          refine slr_gi eX12_later_48 fX12_444 rfl (by repeat (first | exact sl_u_eq | assumption | apply rf_ne (by decide) | exact rfl)) ?_
          refine slv_istore_n (i := 1) (lv' := [_, _]) eX12_later_51 rfl (by decide) rfl ?_
          refine slv_aload_n eX12_later_52 rfl ?_
          refine slv_iconst (v := nI 1) eX12_later_53 (by decide) ?_
          refine slv_callV (As := [_]) eX12_later_54 lX12_524 rfl rfl rf_68 rfl hRB2 (by decide) (Nat.le_of_ble_eq_true rfl) (Nat.zero_add _).symm (Nat.zero_add _).symm (Or.inl rfl) ?_
          rintro _ _ ⟨rfl, v3, a3, rfl, z3, z4⟩
          exact aft2 v3 a3 z3 z4
        refine slv_aload_n eX12_later_0 rfl ?_
        refine slv_iconst (v := nI 0) eX12_later_1 (by decide) ?_
        refine slr_pi eX12_later_2 fX12_149 (Nat.le_of_ble_eq_true rfl) rf_s0 ?_
        refine slv_aload_n eX12_later_5 rfl ?_
        refine slv_iconst (v := nI 0) eX12_later_6 (by decide) ?_
        refine slv_iconst (v := nI 0) eX12_later_7 (by decide) ?_
        refine slv_rV (As := [_, _]) eX12_later_8 lX12_530 rfl rfl rf_68 rfl hA (by decide) (Nat.le_of_ble_eq_true rfl) ?_
        refine slv_if_neB eX12_later_11 (fun h11 => ?_) (fun h11 => absurd h11 (by first | decide | (intro z; cases z)))
        refine slv_aload_n eX12_later_20 rfl ?_
        refine slv_iconst (v := nI 0) eX12_later_21 (by decide) ?_
        refine slv_rV (As := [_]) eX12_later_22 lX12_515 rfl rfl rf_68 rfl hC0 (by decide) (Nat.le_of_ble_eq_true rfl) ?_
        refine slv_if_eqB eX12_later_25 (fun h25 => absurd h25 (by first | decide | (intro z; cases z))) (fun h25 => ?_)
        refine slv_aload_n eX12_later_28 rfl ?_
        refine slv_iconst (v := nI 1) eX12_later_29 (by decide) ?_
        refine slv_rV (As := [_]) eX12_later_30 lX12_515 rfl rfl rf_68 rfl hC1 (by decide) (Nat.le_of_ble_eq_true rfl) ?_
        refine slv_if_neB eX12_later_33 (fun h33 => ?_) (fun h33 => absurd h33 (by first | decide | (intro z; cases z)))
        refine slv_aload_n eX12_later_42 rfl ?_
        refine slv_iconst (v := nI 0) eX12_later_43 (by decide) ?_
        refine slv_callV (As := [_]) eX12_later_44 lX12_524 rfl rfl rf_68 rfl hRB (by decide) (Nat.le_of_ble_eq_true rfl) (Nat.zero_add _).symm (Nat.zero_add _).symm (Or.inl rfl) ?_
        rintro _ _ ⟨rfl, v2, a2, rfl, z1, z2⟩
        exact aft v2 a2 z1 z2
end RQC
