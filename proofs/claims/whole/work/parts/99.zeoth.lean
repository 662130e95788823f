/-! SignLadders: otherwise, later -/
section CFP
variable {fd db sb lf lt : Nat} {sn tl : Bool} {lp : Int32} {g : sg_T} {M : sl_M} {e0 : Nat} {l t s : Nat → Int32} {rn e : Nat} {rk kn nu ba : Nat → Nat} {ar re : Nat → Int32} {f : Nat → Int32}
set_option maxRecDepth 100000 in
theorem c_X11_otherwise (hR : rr_all) (hd : db = 2 ∨ db = 10) (hg : sg_at db g M) (hok : sg_ok g) (hr : rl_at e0 l t s M) (hl : ld_at rn e rk kn ar re nu ba M) (hk : ∀ p, p < 28 → kn p < 28) (hn : ∀ p, p < 28 → nu p < 1000000) (hrn : rn < 1000) (h0 : tl = true → ∀ x, x < 12 → ro_r s x (sg_terms g) ≠ nI 1 ∧ ro_r s x (sg_terms g) ≠ nI 2) {ln : Nat} {q : fs_T} (hf : tl = true → fm_at ln q.1 q.2.1 q.2.2.1 q.2.2.2.1 q.2.2.2.2.1 q.2.2.2.2.2.1 q.2.2.2.2.2.2 M) (hbd : tl = true → ∀ k, q.1 = some k → k < 900) (hc : tl = true → q.2.1 ≤ 60) {S S2 : rd_T} {ho ho2 : Nat} {gv rv lv fv gv2 rv2 lv2 fv2 : Value} (hA : rg_A 38 ho gv rv lv fv S M) (hho : tl = true → ho < 2) (hA2 : rg_A 53 ho2 gv2 rv2 lv2 fv2 S2 M) (hrest : rd_rest S2) : sl_T YX11_otherwise 7 0 0 (fun r M' => match oq_ask tl s rn ho with
    | some k => r = some (.int (-1)) ∧ M' = ob_set fd db sb sn tl lf k lp M
    | none => r = some (.int (an_steps (rdS g ln q s nu kn (1 - ho) S2))) ∧ M' = ob_set fd db sb sn tl lf (an_stt (rdS g ln q s nu kn (1 - ho) S2)) (an_stp (rdS g ln q s nu kn (1 - ho) S2) lp) (rg_S 53 (1 - ho) db (rdS g ln q s nu kn (1 - ho) S2) M)) [.ref 0] (ob_set fd db sb sn tl lf lt lp M) := by
  refine sl_T.of_V (lv := [_, _]) (by decide) rfl (Nat.le_of_ble_eq_true rfl) ?_
  unfold oq_ask
  have k38 := hA.1
  have k53 := hA2.1
  cases tl with
  | false =>
    refine slv_aload_n eX11_otherwise_0 rfl ?_
    refine slv_getf eX11_otherwise_1 fX11_212 (by repeat (first | assumption | exact sl_up_eq | refine sl_up_ne (by first | decide | omega) ?_)) rfl ?_
    refine slv_if_neB eX11_otherwise_4 (fun h4 => absurd h4 (by decide)) (fun h4 => ?_)
    refine slv_aload_n eX11_otherwise_7 rfl ?_
    refine slv_iconst (v := nI 1) eX11_otherwise_8 (by decide) ?_
    refine slv_rV (As := [_]) eX11_otherwise_9 lX11_76 rfl rfl (by repeat (first | assumption | exact sl_up_eq | refine sl_up_ne (by first | decide | omega) ?_)) rfl (c_X11_refuse 1) (by decide) (Nat.le_of_ble_eq_true rfl) ?_
    refine slv_iret eX11_otherwise_12 rfl ?_
    exact ⟨rfl, rfl⟩
  | true =>
    have hho := hho rfl
    have hCan := c_X11_canReadBy (fd := fd) (db := db) (sb := sb) (sn := sn) (tl := true) (lf := lf) (lt := lt) (lp := lp) hr hl hrn (show 1 - ho < 2 by omega)
    simp only [cond_true]
    cases hcan : an_can s rn (1 - ho) with
    | false =>
      rw [hcan] at hCan
      refine slv_aload_n eX11_otherwise_0 rfl ?_
      refine slv_getf eX11_otherwise_1 fX11_212 (by repeat (first | assumption | exact sl_up_eq | refine sl_up_ne (by first | decide | omega) ?_)) rfl ?_
      refine slv_if_neB eX11_otherwise_4 (fun h4 => ?_) (fun h4 => absurd h4 (by decide))
      refine slv_iconst (v := nI 1) eX11_otherwise_13 (by decide) ?_
      refine slv_aload_n eX11_otherwise_14 rfl ?_
      refine slv_getf eX11_otherwise_15 fX11_61 (by repeat (first | assumption | exact sl_up_eq | refine sl_up_ne (by first | decide | omega) ?_)) rfl ?_
      refine slv_getf eX11_otherwise_18 fX11_295 (by repeat (first | assumption | exact sl_up_eq | refine sl_up_ne (by first | decide | omega) ?_)) rfl ?_
      refine slv_isubN eX11_otherwise_21 (by omega) ?_
      refine slv_istore_n (i := 1) (lv' := [_, _]) eX11_otherwise_22 rfl (by decide) rfl ?_
      refine slv_aload_n eX11_otherwise_23 rfl ?_
      refine slv_iload_n eX11_otherwise_24 rfl ?_
      refine slv_rV (As := [_]) eX11_otherwise_25 lX11_205 rfl rfl (by repeat (first | assumption | exact sl_up_eq | refine sl_up_ne (by first | decide | omega) ?_)) rfl hCan (by decide) (Nat.le_of_ble_eq_true rfl) ?_
      refine slv_if_neB eX11_otherwise_28 (fun h28 => absurd h28 (by decide)) (fun h28 => ?_)
      refine slv_aload_n eX11_otherwise_31 rfl ?_
      refine slv_iconst (v := nI 5) eX11_otherwise_32 (by decide) ?_
      refine slv_rV (As := [_]) eX11_otherwise_33 lX11_76 rfl rfl (by repeat (first | assumption | exact sl_up_eq | refine sl_up_ne (by first | decide | omega) ?_)) rfl (c_X11_refuse 5) (by decide) (Nat.le_of_ble_eq_true rfl) ?_
      refine slv_iret eX11_otherwise_36 rfl ?_
      exact ⟨rfl, rfl⟩
    | true =>
      rw [hcan] at hCan
      simp only [cond_true]
      have hTh := c_X7_through (M := ob_set fd db sb sn true lf lt lp M) hR (Or.inr rfl) hd (t_ob_sg hd hg) hok (t_ob_rl hr) (t_ob_ld hl) hk hn (h0 rfl) (show 1 - ho < 2 by omega) (t_ob_fm (hf rfl)) (hbd rfl) (hc rfl) (t_ob_rg (Or.inr rfl) hA2) hrest
      have er : rg_S 53 (1 - ho) db (rdS g ln q s nu kn (1 - ho) S2) (ob_set fd db sb sn true lf lt lp M) = ob_set fd db sb sn true lf lt lp (rg_S 53 (1 - ho) db (rdS g ln q s nu kn (1 - ho) S2) M) := rg_c0 (by decide)
      rw [er] at hTh
      have hfa := rdS_fa (g := g) (ln := ln) (s := s) (nu := nu) (kn := kn) (how := 1 - ho) (S0 := S2) (q := q)
      generalize rdS g ln q s nu kn (1 - ho) S2 = T at *
      have hSt := c_X11_stepsOf (fd := fd) (db := db) (sb := sb) (sn := sn) (tl := true) (lf := lf) (lt := lt) (lp := lp) (b := 53) (M := rg_S 53 (1 - ho) db T M) (by decide) (rg_of)
      have e0 : nI (rd_fa T) = 0 ↔ rd_fa T = 0 := nI_inj (b := 0) (by omega) (by decide)
      have e1 : (if nI (rd_fa T) = 0 then nI (rd_sp T) else -1) = an_steps T := by unfold an_steps; simp only [e0]
      have e2 : (if nI (rd_fa T) = 0 then 0 else 6) = an_stt T := by unfold an_stt; simp only [e0]
      have e3 : (if nI (rd_fa T) = 0 then lp else rd_pl T) = an_stp T lp := by unfold an_stp; simp only [e0]
      rw [e1, e2, e3] at hSt
      have k33 := (hf rfl).1
      refine slv_aload_n eX11_otherwise_0 rfl ?_
      refine slv_getf eX11_otherwise_1 fX11_212 (by repeat (first | assumption | exact sl_up_eq | refine sl_up_ne (by first | decide | omega) ?_)) rfl ?_
      refine slv_if_neB eX11_otherwise_4 (fun h4 => ?_) (fun h4 => absurd h4 (by decide))
      refine slv_iconst (v := nI 1) eX11_otherwise_13 (by decide) ?_
      refine slv_aload_n eX11_otherwise_14 rfl ?_
      refine slv_getf eX11_otherwise_15 fX11_61 (by repeat (first | assumption | exact sl_up_eq | refine sl_up_ne (by first | decide | omega) ?_)) rfl ?_
      refine slv_getf eX11_otherwise_18 fX11_295 (by repeat (first | assumption | exact sl_up_eq | refine sl_up_ne (by first | decide | omega) ?_)) rfl ?_
      refine slv_isubN eX11_otherwise_21 (by omega) ?_
      refine slv_istore_n (i := 1) (lv' := [_, _]) eX11_otherwise_22 rfl (by decide) rfl ?_
      refine slv_aload_n eX11_otherwise_23 rfl ?_
      refine slv_iload_n eX11_otherwise_24 rfl ?_
      refine slv_rV (As := [_]) eX11_otherwise_25 lX11_205 rfl rfl (by repeat (first | assumption | exact sl_up_eq | refine sl_up_ne (by first | decide | omega) ?_)) rfl hCan (by decide) (Nat.le_of_ble_eq_true rfl) ?_
      refine slv_if_neB eX11_otherwise_28 (fun h28 => ?_) (fun h28 => absurd h28 (by decide))
      refine slv_aload_n eX11_otherwise_37 rfl ?_
      refine slv_getf eX11_otherwise_38 fX11_65 (by repeat (first | assumption | exact sl_up_eq | refine sl_up_ne (by first | decide | omega) ?_)) rfl ?_
      refine slv_aload_n eX11_otherwise_41 rfl ?_
      refine slv_getf eX11_otherwise_42 fX11_16 (by repeat (first | assumption | exact sl_up_eq | refine sl_up_ne (by first | decide | omega) ?_)) rfl ?_
      refine slv_aload_n eX11_otherwise_45 rfl ?_
      refine slv_getf eX11_otherwise_46 fX11_33 (by repeat (first | assumption | exact sl_up_eq | refine sl_up_ne (by first | decide | omega) ?_)) rfl ?_
      refine slv_aload_n eX11_otherwise_49 rfl ?_
      refine slv_getf eX11_otherwise_50 fX11_40 (by repeat (first | assumption | exact sl_up_eq | refine sl_up_ne (by first | decide | omega) ?_)) rfl ?_
      refine slv_aload_n eX11_otherwise_53 rfl ?_
      refine slv_getf eX11_otherwise_54 fX11_54 (by repeat (first | assumption | exact sl_up_eq | refine sl_up_ne (by first | decide | omega) ?_)) rfl ?_
      refine slv_iload_n eX11_otherwise_57 rfl ?_
      refine slv_rV (As := [_, _, _, _, _]) eX11_otherwise_58 lX11_215 rfl rfl (by repeat (first | assumption | exact sl_up_eq | refine sl_up_ne (by first | decide | omega) ?_)) rfl hTh (by decide) (Nat.le_of_ble_eq_true rfl) ?_
      refine slv_aload_n eX11_otherwise_61 rfl ?_
      refine slv_aload_n eX11_otherwise_62 rfl ?_
      refine slv_getf eX11_otherwise_63 fX11_65 (by repeat (first | assumption | exact sl_up_eq | refine sl_up_ne (by first | decide | omega) ?_)) rfl ?_
      refine slv_rV (As := [_]) eX11_otherwise_66 lX11_219 rfl rfl (by repeat (first | assumption | exact sl_up_eq | refine sl_up_ne (by first | decide | omega) ?_)) rfl hSt (by decide) (Nat.le_of_ble_eq_true rfl) ?_
      refine slv_iret eX11_otherwise_69 rfl ?_
      exact ⟨rfl, rfl⟩
set_option maxRecDepth 100000 in
theorem c_X11_later (hR : rr_all) (hd : db = 2 ∨ db = 10) (hg : sg_at db g M) (hok : sg_ok g) (hr : rl_at e0 l t s M) (hl : ld_at rn e rk kn ar re nu ba M) (hk : ∀ p, p < 28 → kn p < 28) (hn : ∀ p, p < 28 → nu p < 1000000) (hrn : rn < 1000) (h0 : tl = true → ∀ x, x < 12 → ro_r s x (sg_terms g) ≠ nI 1 ∧ ro_r s x (sg_terms g) ≠ nI 2) {ln : Nat} {q : fs_T} (hf : tl = true → fm_at ln q.1 q.2.1 q.2.2.1 q.2.2.2.1 q.2.2.2.2.1 q.2.2.2.2.2.1 q.2.2.2.2.2.2 M) (hbd : tl = true → ∀ k, q.1 = some k → k < 900) (hc : tl = true → q.2.1 ≤ 60) {S S2 : rd_T} {ho ho2 : Nat} {gv rv lv fv gv2 rv2 lv2 fv2 : Value} (hA : rg_A 38 ho gv rv lv fv S M) (hho : tl = true → ho < 2) (hA2 : rg_A 53 ho2 gv2 rv2 lv2 fv2 S2 M) (hrest : rd_rest S2) : sl_T YX11_later 7 0 0 (fun r M' => match lq_ask tl s rn with
    | some k => r = some (.int (-1)) ∧ M' = ob_set fd db sb sn tl lf k lp M
    | none => r = some (.int (if ho = 0 then nI (rd_sp (rdS g ln q s nu kn (1 - ho) S2)) - nI (rd_sp S) else nI (rd_sp S) - nI (rd_sp (rdS g ln q s nu kn (1 - ho) S2)))) ∧ M' = ob_set fd db sb sn tl lf 0 lp (rg_S 53 (1 - ho) db (rdS g ln q s nu kn (1 - ho) S2) M)) [.ref 0] (ob_set fd db sb sn tl lf lt lp M) := by
  refine sl_T.of_V (lv := [_, _]) (by decide) rfl (Nat.le_of_ble_eq_true rfl) ?_
  unfold lq_ask
  have k38 := hA.1
  have k53 := hA2.1
  cases tl with
  | false =>
    show sl_V _ _ _ _ _ (fun r M' => r = some (.int (-1)) ∧ M' = ob_set fd db sb sn false lf 1 lp M) _ _ _ _
    clear hR hg hok hr hl hk hn h0 hf hbd hc hA hho hA2 hrest
    refine slv_aload_n eX11_later_0 rfl ?_
    refine slv_getf eX11_later_1 fX11_212 (by repeat (first | assumption | exact sl_up_eq | refine sl_up_ne (by first | decide | omega) ?_)) rfl ?_
    refine slv_if_neB eX11_later_4 (fun h4 => absurd h4 (by decide)) (fun h4 => ?_)
    refine slv_aload_n eX11_later_7 rfl ?_
    refine slv_iconst (v := nI 1) eX11_later_8 (by decide) ?_
    refine slv_rV (As := [_]) eX11_later_9 lX11_76 rfl rfl (by repeat (first | assumption | exact sl_up_eq | refine sl_up_ne (by first | decide | omega) ?_)) rfl (c_X11_refuse 1) (by decide) (Nat.le_of_ble_eq_true rfl) ?_
    refine slv_iret eX11_later_12 rfl ?_
    exact ⟨rfl, rfl⟩
  | true =>
    have hho := hho rfl
    have hC0 := c_X11_canReadBy (fd := fd) (db := db) (sb := sb) (sn := sn) (tl := true) (lf := lf) (lt := lt) (lp := lp) hr hl hrn (show 0 < 2 by omega)
    have hC1 := c_X11_canReadBy (fd := fd) (db := db) (sb := sb) (sn := sn) (tl := true) (lf := lf) (lt := lt) (lp := lp) hr hl hrn (show 1 < 2 by omega)
    simp only [cond_true]
    generalize an_can s rn 0 = c0 at *
    generalize an_can s rn 1 = c1 at *
    cases c0 with
    | false =>
      refine slv_aload_n eX11_later_0 rfl ?_
      refine slv_getf eX11_later_1 fX11_212 (by repeat (first | assumption | exact sl_up_eq | refine sl_up_ne (by first | decide | omega) ?_)) rfl ?_
      refine slv_if_neB eX11_later_4 (fun h4 => ?_) (fun h4 => absurd h4 (by decide))
      refine slv_aload_n eX11_later_13 rfl ?_
      refine slv_iconst (v := nI 0) eX11_later_14 (by decide) ?_
      refine slv_rV (As := [_]) eX11_later_15 lX11_205 rfl rfl (by repeat (first | assumption | exact sl_up_eq | refine sl_up_ne (by first | decide | omega) ?_)) rfl hC0 (by decide) (Nat.le_of_ble_eq_true rfl) ?_
      refine slv_if_eqB eX11_later_18 (fun h18 => ?_) (fun h18 => absurd h18 (by decide))
      refine slv_aload_n eX11_later_29 rfl ?_
      refine slv_iconst (v := nI 5) eX11_later_30 (by decide) ?_
      refine slv_rV (As := [_]) eX11_later_31 lX11_76 rfl rfl (by repeat (first | assumption | exact sl_up_eq | refine sl_up_ne (by first | decide | omega) ?_)) rfl (c_X11_refuse 5) (by decide) (Nat.le_of_ble_eq_true rfl) ?_
      refine slv_iret eX11_later_34 rfl ?_
      exact ⟨rfl, rfl⟩
    | true =>
      cases c1 with
      | false =>
        refine slv_aload_n eX11_later_0 rfl ?_
        refine slv_getf eX11_later_1 fX11_212 (by repeat (first | assumption | exact sl_up_eq | refine sl_up_ne (by first | decide | omega) ?_)) rfl ?_
        refine slv_if_neB eX11_later_4 (fun h4 => ?_) (fun h4 => absurd h4 (by decide))
        refine slv_aload_n eX11_later_13 rfl ?_
        refine slv_iconst (v := nI 0) eX11_later_14 (by decide) ?_
        refine slv_rV (As := [_]) eX11_later_15 lX11_205 rfl rfl (by repeat (first | assumption | exact sl_up_eq | refine sl_up_ne (by first | decide | omega) ?_)) rfl hC0 (by decide) (Nat.le_of_ble_eq_true rfl) ?_
        refine slv_if_eqB eX11_later_18 (fun h18 => absurd h18 (by decide)) (fun h18 => ?_)
        refine slv_aload_n eX11_later_21 rfl ?_
        refine slv_iconst (v := nI 1) eX11_later_22 (by decide) ?_
        refine slv_rV (As := [_]) eX11_later_23 lX11_205 rfl rfl (by repeat (first | assumption | exact sl_up_eq | refine sl_up_ne (by first | decide | omega) ?_)) rfl hC1 (by decide) (Nat.le_of_ble_eq_true rfl) ?_
        refine slv_if_neB eX11_later_26 (fun h26 => absurd h26 (by decide)) (fun h26 => ?_)
        refine slv_aload_n eX11_later_29 rfl ?_
        refine slv_iconst (v := nI 5) eX11_later_30 (by decide) ?_
        refine slv_rV (As := [_]) eX11_later_31 lX11_76 rfl rfl (by repeat (first | assumption | exact sl_up_eq | refine sl_up_ne (by first | decide | omega) ?_)) rfl (c_X11_refuse 5) (by decide) (Nat.le_of_ble_eq_true rfl) ?_
        refine slv_iret eX11_later_34 rfl ?_
        exact ⟨rfl, rfl⟩
      | true =>
        have hTh := c_X7_through (M := ob_set fd db sb sn true lf lt lp M) hR (Or.inr rfl) hd (t_ob_sg hd hg) hok (t_ob_rl hr) (t_ob_ld hl) hk hn (h0 rfl) (show 1 - ho < 2 by omega) (t_ob_fm (hf rfl)) (hbd rfl) (hc rfl) (t_ob_rg (Or.inr rfl) hA2) hrest
        have er : rg_S 53 (1 - ho) db (rdS g ln q s nu kn (1 - ho) S2) (ob_set fd db sb sn true lf lt lp M) = ob_set fd db sb sn true lf lt lp (rg_S 53 (1 - ho) db (rdS g ln q s nu kn (1 - ho) S2) M) := rg_c0 (by decide)
        rw [er] at hTh
        try dsimp only [cond_true, Bool.and_self]
        generalize rdS g ln q s nu kn (1 - ho) S2 = T at *
        have hA' : rg_A 38 ho gv rv lv fv S (rg_S 53 (1 - ho) db T M) := t_rg_rg (Or.inl rfl) (Or.inr rfl) (by decide) hA
        have hB' : rg_A 53 (1 - ho) (.ref db) (.ref 19) (.ref 23) (.ref 33) T (rg_S 53 (1 - ho) db T M) := rg_of
        clear er
        generalize rg_S 53 (1 - ho) db T M = M2 at *
        have k38' := hA'.1
        have k53' := hB'.1
        have k33 := (hf rfl).1
        rcases (show ho = 0 ∨ ho = 1 by omega) with z | z <;> subst z
        · refine slv_aload_n eX11_later_0 rfl ?_
          refine slv_getf eX11_later_1 fX11_212 (by repeat (first | assumption | exact sl_up_eq | refine sl_up_ne (by first | decide | omega) ?_)) rfl ?_
          refine slv_if_neB eX11_later_4 (fun h4 => ?_) (fun h4 => absurd h4 (by decide))
          refine slv_aload_n eX11_later_13 rfl ?_
          refine slv_iconst (v := nI 0) eX11_later_14 (by decide) ?_
          refine slv_rV (As := [_]) eX11_later_15 lX11_205 rfl rfl (by repeat (first | assumption | exact sl_up_eq | refine sl_up_ne (by first | decide | omega) ?_)) rfl hC0 (by decide) (Nat.le_of_ble_eq_true rfl) ?_
          refine slv_if_eqB eX11_later_18 (fun h18 => absurd h18 (by decide)) (fun h18 => ?_)
          refine slv_aload_n eX11_later_21 rfl ?_
          refine slv_iconst (v := nI 1) eX11_later_22 (by decide) ?_
          refine slv_rV (As := [_]) eX11_later_23 lX11_205 rfl rfl (by repeat (first | assumption | exact sl_up_eq | refine sl_up_ne (by first | decide | omega) ?_)) rfl hC1 (by decide) (Nat.le_of_ble_eq_true rfl) ?_
          refine slv_if_neB eX11_later_26 (fun h26 => ?_) (fun h26 => absurd h26 (by decide))
          refine slv_aload_n eX11_later_35 rfl ?_
          refine slv_getf eX11_later_36 fX11_65 (by repeat (first | assumption | exact sl_up_eq | refine sl_up_ne (by first | decide | omega) ?_)) rfl ?_
          refine slv_aload_n eX11_later_39 rfl ?_
          refine slv_getf eX11_later_40 fX11_16 (by repeat (first | assumption | exact sl_up_eq | refine sl_up_ne (by first | decide | omega) ?_)) rfl ?_
          refine slv_aload_n eX11_later_43 rfl ?_
          refine slv_getf eX11_later_44 fX11_33 (by repeat (first | assumption | exact sl_up_eq | refine sl_up_ne (by first | decide | omega) ?_)) rfl ?_
          refine slv_aload_n eX11_later_47 rfl ?_
          refine slv_getf eX11_later_48 fX11_40 (by repeat (first | assumption | exact sl_up_eq | refine sl_up_ne (by first | decide | omega) ?_)) rfl ?_
          refine slv_aload_n eX11_later_51 rfl ?_
          refine slv_getf eX11_later_52 fX11_54 (by repeat (first | assumption | exact sl_up_eq | refine sl_up_ne (by first | decide | omega) ?_)) rfl ?_
          refine slv_iconst (v := nI 1) eX11_later_55 (by decide) ?_
          refine slv_aload_n eX11_later_56 rfl ?_
          refine slv_getf eX11_later_57 fX11_61 (by repeat (first | assumption | exact sl_up_eq | refine sl_up_ne (by first | decide | omega) ?_)) rfl ?_
          refine slv_getf eX11_later_60 fX11_295 (by repeat (first | assumption | exact sl_up_eq | refine sl_up_ne (by first | decide | omega) ?_)) rfl ?_
          refine slv_isubN eX11_later_63 (by omega) ?_
          refine slv_rV (As := [_, _, _, _, _]) eX11_later_64 lX11_215 rfl rfl (by repeat (first | assumption | exact sl_up_eq | refine sl_up_ne (by first | decide | omega) ?_)) rfl hTh (by decide) (Nat.le_of_ble_eq_true rfl) ?_
          refine slv_aload_n eX11_later_67 rfl ?_
          refine slv_getf eX11_later_68 fX11_65 (by repeat (first | assumption | exact sl_up_eq | refine sl_up_ne (by first | decide | omega) ?_)) rfl ?_
          refine slv_getf eX11_later_71 fX11_229 (by repeat (first | assumption | exact sl_up_eq | refine sl_up_ne (by first | decide | omega) ?_)) rfl ?_
          refine slv_aload_n eX11_later_74 rfl ?_
          refine slv_getf eX11_later_75 fX11_61 (by repeat (first | assumption | exact sl_up_eq | refine sl_up_ne (by first | decide | omega) ?_)) rfl ?_
          refine slv_getf eX11_later_78 fX11_229 (by repeat (first | assumption | exact sl_up_eq | refine sl_up_ne (by first | decide | omega) ?_)) rfl ?_
          refine slv_isub eX11_later_81 ?_
          refine slv_istore_n (i := 1) (lv' := [_, _]) eX11_later_82 rfl (by decide) rfl ?_
          refine slv_aload_n eX11_later_83 rfl ?_
          refine slv_aload_n eX11_later_84 rfl ?_
          refine slv_getf eX11_later_85 fX11_61 (by repeat (first | assumption | exact sl_up_eq | refine sl_up_ne (by first | decide | omega) ?_)) rfl ?_
          refine slv_getf eX11_later_88 fX11_295 (by repeat (first | assumption | exact sl_up_eq | refine sl_up_ne (by first | decide | omega) ?_)) rfl ?_
          refine slv_if_ne eX11_later_91 (fun h91 => absurd rfl h91) (fun h91 => ?_)
          refine slv_iload_n eX11_later_94 rfl ?_
          refine slv_goto eX11_later_95 ?_
          refine slv_rV (As := [_]) eX11_later_100 lX11_110 rfl rfl (by repeat (first | assumption | exact sl_up_eq | refine sl_up_ne (by first | decide | omega) ?_)) rfl (c_X11_grant _) (by decide) (Nat.le_of_ble_eq_true rfl) ?_
          refine slv_iret eX11_later_103 rfl ?_
          exact ⟨by rw [if_pos rfl], rfl⟩
        · refine slv_aload_n eX11_later_0 rfl ?_
          refine slv_getf eX11_later_1 fX11_212 (by repeat (first | assumption | exact sl_up_eq | refine sl_up_ne (by first | decide | omega) ?_)) rfl ?_
          refine slv_if_neB eX11_later_4 (fun h4 => ?_) (fun h4 => absurd h4 (by decide))
          refine slv_aload_n eX11_later_13 rfl ?_
          refine slv_iconst (v := nI 0) eX11_later_14 (by decide) ?_
          refine slv_rV (As := [_]) eX11_later_15 lX11_205 rfl rfl (by repeat (first | assumption | exact sl_up_eq | refine sl_up_ne (by first | decide | omega) ?_)) rfl hC0 (by decide) (Nat.le_of_ble_eq_true rfl) ?_
          refine slv_if_eqB eX11_later_18 (fun h18 => absurd h18 (by decide)) (fun h18 => ?_)
          refine slv_aload_n eX11_later_21 rfl ?_
          refine slv_iconst (v := nI 1) eX11_later_22 (by decide) ?_
          refine slv_rV (As := [_]) eX11_later_23 lX11_205 rfl rfl (by repeat (first | assumption | exact sl_up_eq | refine sl_up_ne (by first | decide | omega) ?_)) rfl hC1 (by decide) (Nat.le_of_ble_eq_true rfl) ?_
          refine slv_if_neB eX11_later_26 (fun h26 => ?_) (fun h26 => absurd h26 (by decide))
          refine slv_aload_n eX11_later_35 rfl ?_
          refine slv_getf eX11_later_36 fX11_65 (by repeat (first | assumption | exact sl_up_eq | refine sl_up_ne (by first | decide | omega) ?_)) rfl ?_
          refine slv_aload_n eX11_later_39 rfl ?_
          refine slv_getf eX11_later_40 fX11_16 (by repeat (first | assumption | exact sl_up_eq | refine sl_up_ne (by first | decide | omega) ?_)) rfl ?_
          refine slv_aload_n eX11_later_43 rfl ?_
          refine slv_getf eX11_later_44 fX11_33 (by repeat (first | assumption | exact sl_up_eq | refine sl_up_ne (by first | decide | omega) ?_)) rfl ?_
          refine slv_aload_n eX11_later_47 rfl ?_
          refine slv_getf eX11_later_48 fX11_40 (by repeat (first | assumption | exact sl_up_eq | refine sl_up_ne (by first | decide | omega) ?_)) rfl ?_
          refine slv_aload_n eX11_later_51 rfl ?_
          refine slv_getf eX11_later_52 fX11_54 (by repeat (first | assumption | exact sl_up_eq | refine sl_up_ne (by first | decide | omega) ?_)) rfl ?_
          refine slv_iconst (v := nI 1) eX11_later_55 (by decide) ?_
          refine slv_aload_n eX11_later_56 rfl ?_
          refine slv_getf eX11_later_57 fX11_61 (by repeat (first | assumption | exact sl_up_eq | refine sl_up_ne (by first | decide | omega) ?_)) rfl ?_
          refine slv_getf eX11_later_60 fX11_295 (by repeat (first | assumption | exact sl_up_eq | refine sl_up_ne (by first | decide | omega) ?_)) rfl ?_
          refine slv_isubN eX11_later_63 (by omega) ?_
          refine slv_rV (As := [_, _, _, _, _]) eX11_later_64 lX11_215 rfl rfl (by repeat (first | assumption | exact sl_up_eq | refine sl_up_ne (by first | decide | omega) ?_)) rfl hTh (by decide) (Nat.le_of_ble_eq_true rfl) ?_
          refine slv_aload_n eX11_later_67 rfl ?_
          refine slv_getf eX11_later_68 fX11_65 (by repeat (first | assumption | exact sl_up_eq | refine sl_up_ne (by first | decide | omega) ?_)) rfl ?_
          refine slv_getf eX11_later_71 fX11_229 (by repeat (first | assumption | exact sl_up_eq | refine sl_up_ne (by first | decide | omega) ?_)) rfl ?_
          refine slv_aload_n eX11_later_74 rfl ?_
          refine slv_getf eX11_later_75 fX11_61 (by repeat (first | assumption | exact sl_up_eq | refine sl_up_ne (by first | decide | omega) ?_)) rfl ?_
          refine slv_getf eX11_later_78 fX11_229 (by repeat (first | assumption | exact sl_up_eq | refine sl_up_ne (by first | decide | omega) ?_)) rfl ?_
          refine slv_isub eX11_later_81 ?_
          refine slv_istore_n (i := 1) (lv' := [_, _]) eX11_later_82 rfl (by decide) rfl ?_
          refine slv_aload_n eX11_later_83 rfl ?_
          refine slv_aload_n eX11_later_84 rfl ?_
          refine slv_getf eX11_later_85 fX11_61 (by repeat (first | assumption | exact sl_up_eq | refine sl_up_ne (by first | decide | omega) ?_)) rfl ?_
          refine slv_getf eX11_later_88 fX11_295 (by repeat (first | assumption | exact sl_up_eq | refine sl_up_ne (by first | decide | omega) ?_)) rfl ?_
          refine slv_if_ne eX11_later_91 (fun h91 => ?_) (fun h91 => absurd h91 (by decide))
          refine slv_iload_n eX11_later_98 rfl ?_
          refine slv_ineg eX11_later_99 ?_
          refine slv_rV (As := [_]) eX11_later_100 lX11_110 rfl rfl (by repeat (first | assumption | exact sl_up_eq | refine sl_up_ne (by first | decide | omega) ?_)) rfl (c_X11_grant _) (by decide) (Nat.le_of_ble_eq_true rfl) ?_
          refine slv_iret eX11_later_103 rfl ?_
          exact ⟨by rw [if_neg (by decide), Int32.neg_sub], rfl⟩
end CFP
