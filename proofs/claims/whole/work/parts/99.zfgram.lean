/-! SignLadders: grammar -/
section CGR
variable {fd db sb lf lt : Nat} {sn tl : Bool} {lp : Int32} {g gs : sg_T} {M : sl_M} {e0 : Nat} {l t s : Nat → Int32} {rn e : Nat} {rk kn nu ba : Nat → Nat} {ar re : Nat → Int32} {f : Nat → Int32} {R : gr_T}
theorem gp_c0 {cc : sl_E} {b ln : Nat} (hb : b = 2 ∨ b = 10) {R : gr_T} {g : sg_T} : gp_S b ln R g (sl_up M 0 cc) = sl_up (gp_S b ln R g M) 0 cc := by
  have e1 : gp_G b g (sl_up M 0 cc) = sl_up (gp_G b g M) 0 cc := gs_c0 (by omega)
  show gp_R b ln R (gp_G b g (sl_up M 0 cc)) = _
  rw [e1]
  exact gr_c0
theorem gp_sgS {b ln : Nat} (hb : b = 2 ∨ b = 10) : sg_at b g (gp_S b ln R g M) := t_gr_sg hb gs_of
set_option maxRecDepth 100000 in
theorem c_X11_grammar (hS : st_all) (hd : db = 2 ∨ db = 10) (hsb : sb = 2 ∨ sb = 10) (hT : M 1 = .inl (.byte, 900, .inl f)) (hfd : fd ≤ 900) (hg : sg_at db g M) (hgs : sg_at sb gs M) (hoks : sg_ok gs) (hzs : sg_z gs) {bv mv : Value} {ln0 : Nat} (hgr : gr_at (gr_fa R) (gr_pl R) bv ln0 (gr_a R) mv (gr_st R) (gr_hd R) (gr_en R) (gr_tk R) (gr_tp R) (gr_wd R) (gr_sg R) M) (h2 : gr_tk R ≤ 4) (h4 : gr_sg R < 256) (hr : rl_at e0 l t s M) (hz : (∀ i, 6 ≤ i → l i = nI 0 ∧ t i = nI 0) ∧ ∀ i, 144 ≤ i → s i = nI 0) (hl : ld_at rn e rk kn ar re nu ba M) (hy : ∀ p, 28 ≤ p → kn p = 0 ∧ ar p = nI 0 ∧ re p = nI 0 ∧ nu p = 0 ∧ ba p = 0) {c : Nat} {o w : Nat → Int32} (ha : ac_at c o w M) (hfa : ∀ ln, ln ≤ 900 → gr_fa (gr_E f ln R gs).1 < 100) (x : Int32) : sl_T YX11_grammar 10 0 0 (fun r M' => match sl_vi x (fd + 1) with
    | none => r = some (.int (-1)) ∧ M' = ob_set fd db sb sn tl lf 2 lp M
    | some ln => if 0 < gr_fa (gr_E f ln R gs).1 then r = some (.int (-1)) ∧ M' = ob_set 0 db sb sn tl (gr_fa (gr_E f ln R gs).1) 4 (nI (gr_pl (gr_E f ln R gs).1)) (gp_S sb ln (gr_E f ln R gs).1 (gr_E f ln R gs).2 M)
      else r = some (.int (nI (sg_rules (gr_E f ln R gs).2))) ∧ M' = ob_set 0 sb db true false 0 0 lp (sd_set (gr_E f ln R gs).2 rk ba (ac_set 0 o w (gp_S sb ln (gr_E f ln R gs).1 (gr_E f ln R gs).2 M)))) [.ref 0, .int x] (ob_set fd db sb sn tl lf lt lp M) := by
  refine sl_T.of_V (lv := [_, _, _]) (by decide) rfl (Nat.le_of_ble_eq_true rfl) ?_
  have k18 : M 18 = _ := hgr
  cases hx : sl_vi x (fd + 1) with
  | none =>
    by_cases hx0 : x < 0
    · refine slv_iload_n eX11_grammar_0 rfl ?_
      refine slv_if_lt eX11_grammar_1 (fun h1 => ?_) (fun h1 => absurd hx0 h1)
      refine slv_aload_n eX11_grammar_12 rfl ?_
      refine slv_iconst (v := nI 2) eX11_grammar_13 (by decide) ?_
      refine slv_rV (As := [_]) eX11_grammar_14 lX11_76 rfl rfl (by repeat (first | assumption | exact sl_up_eq | refine sl_up_ne (by first | decide | omega) ?_)) rfl (c_X11_refuse 2) (by decide) (Nat.le_of_ble_eq_true rfl) ?_
      refine slv_iret eX11_grammar_17 rfl ?_
      exact ⟨rfl, rfl⟩
    · have hx1 : ¬ x ≤ nI fd := fun q => by
        rcases vi_lt (by omega) hx with c | c
        · exact hx0 c
        · exact c (vi_le1 (by omega) q)
      refine slv_iload_n eX11_grammar_0 rfl ?_
      refine slv_if_lt eX11_grammar_1 (fun h1 => absurd h1 hx0) (fun h1 => ?_)
      refine slv_iload_n eX11_grammar_4 rfl ?_
      refine slv_aload_n eX11_grammar_5 rfl ?_
      refine slv_getf eX11_grammar_6 fX11_68 (by repeat (first | assumption | exact sl_up_eq | refine sl_up_ne (by first | decide | omega) ?_)) rfl ?_
      refine slv_icmp_le eX11_grammar_9 (fun h9 => absurd h9 hx1) (fun h9 => ?_)
      refine slv_aload_n eX11_grammar_12 rfl ?_
      refine slv_iconst (v := nI 2) eX11_grammar_13 (by decide) ?_
      refine slv_rV (As := [_]) eX11_grammar_14 lX11_76 rfl rfl (by repeat (first | assumption | exact sl_up_eq | refine sl_up_ne (by first | decide | omega) ?_)) rfl (c_X11_refuse 2) (by decide) (Nat.le_of_ble_eq_true rfl) ?_
      refine slv_iret eX11_grammar_17 rfl ?_
      exact ⟨rfl, rfl⟩
  | some ln =>
    obtain ⟨ex, hln⟩ := vi_some hx
    subst ex
    have hx0 : ¬ nI ln < 0 := vi_neg (by omega)
    have hok' := (gpo_k_run (f := f) (ln := ln) (ln + 1) (gp_R0 R, gp_g0 gs) (gpo_k_0 h2 h4 hoks))
    have hfa := hfa ln (by omega)
    have z := c_X3_readAll (M := ob_set fd db sb sn tl lf lt lp M) (f := f) (ln := ln) (b := sb) (R := R) (g := gs) (bv := bv) (mv := mv) (ln0 := ln0) hS (t_ob_1 hT) hsb (by omega) h2 h4 hoks hzs
    have e1 : gp_G sb gs (ob_set fd db sb sn tl lf lt lp M) = ob_set fd db sb sn tl lf lt lp M := gs_self (t_ob_sg hsb hgs)
    have e2 : gr_set (gr_fa R) (gr_pl R) bv ln0 (gr_a R) mv (gr_st R) (gr_hd R) (gr_en R) (gr_tk R) (gr_tp R) (gr_wd R) (gr_sg R) (ob_set fd db sb sn tl lf lt lp M) = ob_set fd db sb sn tl lf lt lp M := gr_self (t_ob_gr hgr)
    rw [e1, e2] at z
    dsimp only
    change gpo_k ln (gr_E f ln R gs).1 (gr_E f ln R gs).2 at hok'
    change sl_R YX3_readAll 9 _ _ none (gp_S sb ln (gr_E f ln R gs).1 (gr_E f ln R gs).2 _) at z
    generalize gr_E f ln R gs = EE at *
    have e3 : gp_S sb ln EE.1 EE.2 (ob_set fd db sb sn tl lf lt lp M) = ob_set fd db sb sn tl lf lt lp (gp_S sb ln EE.1 EE.2 M) := gp_c0 hsb
    rw [e3] at z
    have hg2 : sg_at sb EE.2 (gp_S sb ln EE.1 EE.2 M) := gp_sgS hsb
    have hr2 : rl_at e0 l t s (gp_S sb ln EE.1 EE.2 M) := t_gr_rl (t_gs_rl hsb hr)
    have hl2 : ld_at rn e rk kn ar re nu ba (gp_S sb ln EE.1 EE.2 M) := t_gr_ld (t_gs_ld hsb hl)
    have ha2 : ac_at c o w (gp_S sb ln EE.1 EE.2 M) := t_gr_ac (t_gs_ac hsb ha)
    have k18' : gp_S sb ln EE.1 EE.2 M 18 = .inr (3, [.int (nI (gr_fa EE.1)), .int (nI (gr_pl EE.1)), .ref 1, .int (nI ln), .int (nI (gr_a EE.1)), .ref sb, .int (nI (gr_st EE.1)), .int (sl_bi (gr_hd EE.1)), .int (sl_bi (gr_en EE.1)), .int (nI (gr_tk EE.1)), .int (nI (gr_tp EE.1)), .int (gr_wd EE.1), .int (nI (gr_sg EE.1))]) := gr_of
    clear e1 e2 e3
    generalize gp_S sb ln EE.1 EE.2 M = M2 at *
    by_cases h0 : 0 < gr_fa EE.1
    · simp only [h0, if_true]
      refine slv_iload_n eX11_grammar_0 rfl ?_
      refine slv_if_lt eX11_grammar_1 (fun h1 => absurd h1 hx0) (fun h1 => ?_)
      refine slv_iload_n eX11_grammar_4 rfl ?_
      refine slv_aload_n eX11_grammar_5 rfl ?_
      refine slv_getf eX11_grammar_6 fX11_68 (by repeat (first | assumption | exact sl_up_eq | refine sl_up_ne (by first | decide | omega) ?_)) rfl ?_
      refine slv_icmp_leN eX11_grammar_9 (by omega) (by omega) (fun h9 => ?_) (fun h9 => absurd h9 (by omega))
      refine slv_aload_n eX11_grammar_18 rfl ?_
      refine slv_getf eX11_grammar_19 fX11_26 (by repeat (first | assumption | exact sl_up_eq | refine sl_up_ne (by first | decide | omega) ?_)) rfl ?_
      refine slv_aload_n eX11_grammar_22 rfl ?_
      refine slv_getf eX11_grammar_23 fX11_9 (by repeat (first | assumption | exact sl_up_eq | refine sl_up_ne (by first | decide | omega) ?_)) rfl ?_
      refine slv_iload_n eX11_grammar_26 rfl ?_
      refine slv_aload_n eX11_grammar_27 rfl ?_
      refine slv_getf eX11_grammar_28 fX11_20 (by repeat (first | assumption | exact sl_up_eq | refine sl_up_ne (by first | decide | omega) ?_)) rfl ?_
      refine slv_rV (As := [_, _, _]) eX11_grammar_31 lX11_80 rfl rfl (by repeat (first | assumption | exact sl_up_eq | refine sl_up_ne (by first | decide | omega) ?_)) rfl z (by decide) (Nat.le_of_ble_eq_true rfl) ?_
      refine slv_aload_n eX11_grammar_34 rfl ?_
      refine slv_iconst (v := nI 0) eX11_grammar_35 (by decide) ?_
      refine slv_putf (fs' := [_, _, _, _, _, _, _, _, _, _, _, _, _, _, _, _]) eX11_grammar_36 fX11_68 (by repeat (first | assumption | exact sl_up_eq | refine sl_up_ne (by first | decide | omega) ?_)) (Nat.le_of_ble_eq_true rfl) rfl rfl rfl ?_
      refine slv_mem (ob_u0 (fd' := 0)) ?_
      refine slv_aload_n eX11_grammar_39 rfl ?_
      refine slv_aload_n eX11_grammar_40 rfl ?_
      refine slv_getf eX11_grammar_41 fX11_26 (by repeat (first | assumption | exact sl_up_eq | refine sl_up_ne (by first | decide | omega) ?_)) rfl ?_
      refine slv_getf eX11_grammar_44 fX11_84 (by repeat (first | assumption | exact sl_up_eq | refine sl_up_ne (by first | decide | omega) ?_)) rfl ?_
      refine slv_putf (fs' := [_, _, _, _, _, _, _, _, _, _, _, _, _, _, _, _]) eX11_grammar_47 fX11_87 (by repeat (first | assumption | exact sl_up_eq | refine sl_up_ne (by first | decide | omega) ?_)) (Nat.le_of_ble_eq_true rfl) rfl rfl rfl ?_
      refine slv_mem (ob_u0 (lf' := gr_fa EE.1)) ?_
      refine slv_aload_n eX11_grammar_50 rfl ?_
      refine slv_getf eX11_grammar_51 fX11_87 (by repeat (first | assumption | exact sl_up_eq | refine sl_up_ne (by first | decide | omega) ?_)) rfl ?_
      refine slv_if_eqN eX11_grammar_54 (by omega) (fun h54 => absurd h54 (by omega)) (fun h54 => ?_)
      refine slv_aload_n eX11_grammar_57 rfl ?_
      refine slv_iconst (v := nI 4) eX11_grammar_58 (by decide) ?_
      refine slv_aload_n eX11_grammar_59 rfl ?_
      refine slv_getf eX11_grammar_60 fX11_26 (by repeat (first | assumption | exact sl_up_eq | refine sl_up_ne (by first | decide | omega) ?_)) rfl ?_
      refine slv_getf eX11_grammar_63 fX11_90 (by repeat (first | assumption | exact sl_up_eq | refine sl_up_ne (by first | decide | omega) ?_)) rfl ?_
      refine slv_rV (As := [_, _]) eX11_grammar_66 lX11_93 rfl rfl (by repeat (first | assumption | exact sl_up_eq | refine sl_up_ne (by first | decide | omega) ?_)) rfl (c_X11_refuseAt 4 _) (by decide) (Nat.le_of_ble_eq_true rfl) ?_
      refine slv_iret eX11_grammar_69 rfl ?_
      exact ⟨rfl, rfl⟩
    · simp only [h0, if_false]
      have e0 : gr_fa EE.1 = 0 := by omega
      have k30 := ha2.1
      have k2 := hg2.1
      have hCl := c_X0_clear (M := ob_set 0 sb db true tl 0 lt lp M2) (c := c) (o := o) (w := w) (t_ob_ac ha2)
      have e4 : ac_set 0 o w (ob_set 0 sb db true tl 0 lt lp M2) = ob_set 0 sb db true tl 0 lt lp (ac_set 0 o w M2) := ac_c0
      rw [e4] at hCl
      have hg3 : sg_at sb EE.2 (ac_set 0 o w M2) := t_ac_sg hsb hg2
      have hSe := c_X11_settle (fd := 0) (db := sb) (sb := db) (sn := true) (tl := tl) (lf := 0) (lt := lt) (lp := lp) hsb hg3 hok'.2.2.2.2.1 (t_ac_rl hr2) hz (t_ac_ld hl2) hy
      have hg4 : sg_at sb EE.2 (sd_set EE.2 rk ba (ac_set 0 o w M2)) := t_ld_sg hsb (t_rl_sg hsb hg3)
      generalize ac_set 0 o w M2 = M3 at *
      generalize sd_set EE.2 rk ba M3 = M4 at *
      have k4 := hg4.1
      rw [e0] at k18'
      refine slv_iload_n eX11_grammar_0 rfl ?_
      refine slv_if_lt eX11_grammar_1 (fun h1 => absurd h1 hx0) (fun h1 => ?_)
      refine slv_iload_n eX11_grammar_4 rfl ?_
      refine slv_aload_n eX11_grammar_5 rfl ?_
      refine slv_getf eX11_grammar_6 fX11_68 (by repeat (first | assumption | exact sl_up_eq | refine sl_up_ne (by first | decide | omega) ?_)) rfl ?_
      refine slv_icmp_leN eX11_grammar_9 (by omega) (by omega) (fun h9 => ?_) (fun h9 => absurd h9 (by omega))
      refine slv_aload_n eX11_grammar_18 rfl ?_
      refine slv_getf eX11_grammar_19 fX11_26 (by repeat (first | assumption | exact sl_up_eq | refine sl_up_ne (by first | decide | omega) ?_)) rfl ?_
      refine slv_aload_n eX11_grammar_22 rfl ?_
      refine slv_getf eX11_grammar_23 fX11_9 (by repeat (first | assumption | exact sl_up_eq | refine sl_up_ne (by first | decide | omega) ?_)) rfl ?_
      refine slv_iload_n eX11_grammar_26 rfl ?_
      refine slv_aload_n eX11_grammar_27 rfl ?_
      refine slv_getf eX11_grammar_28 fX11_20 (by repeat (first | assumption | exact sl_up_eq | refine sl_up_ne (by first | decide | omega) ?_)) rfl ?_
      refine slv_rV (As := [_, _, _]) eX11_grammar_31 lX11_80 rfl rfl (by repeat (first | assumption | exact sl_up_eq | refine sl_up_ne (by first | decide | omega) ?_)) rfl z (by decide) (Nat.le_of_ble_eq_true rfl) ?_
      refine slv_aload_n eX11_grammar_34 rfl ?_
      refine slv_iconst (v := nI 0) eX11_grammar_35 (by decide) ?_
      refine slv_putf (fs' := [_, _, _, _, _, _, _, _, _, _, _, _, _, _, _, _]) eX11_grammar_36 fX11_68 (by repeat (first | assumption | exact sl_up_eq | refine sl_up_ne (by first | decide | omega) ?_)) (Nat.le_of_ble_eq_true rfl) rfl rfl rfl ?_
      refine slv_mem (ob_u0 (fd' := 0)) ?_
      refine slv_aload_n eX11_grammar_39 rfl ?_
      refine slv_aload_n eX11_grammar_40 rfl ?_
      refine slv_getf eX11_grammar_41 fX11_26 (by repeat (first | assumption | exact sl_up_eq | refine sl_up_ne (by first | decide | omega) ?_)) rfl ?_
      refine slv_getf eX11_grammar_44 fX11_84 (by repeat (first | assumption | exact sl_up_eq | refine sl_up_ne (by first | decide | omega) ?_)) rfl ?_
      refine slv_putf (fs' := [_, _, _, _, _, _, _, _, _, _, _, _, _, _, _, _]) eX11_grammar_47 fX11_87 (by repeat (first | assumption | exact sl_up_eq | refine sl_up_ne (by first | decide | omega) ?_)) (Nat.le_of_ble_eq_true rfl) rfl rfl rfl ?_
      refine slv_mem (ob_u0 (lf' := 0)) ?_
      refine slv_aload_n eX11_grammar_50 rfl ?_
      refine slv_getf eX11_grammar_51 fX11_87 (by repeat (first | assumption | exact sl_up_eq | refine sl_up_ne (by first | decide | omega) ?_)) rfl ?_
      refine slv_if_eqN eX11_grammar_54 (by omega) (fun h54 => ?_) (fun h54 => absurd h54 (by omega))
      refine slv_aload_n eX11_grammar_70 rfl ?_
      refine slv_getf eX11_grammar_71 fX11_16 (by repeat (first | assumption | exact sl_up_eq | refine sl_up_ne (by first | decide | omega) ?_)) rfl ?_
      refine slv_astore_n (i := 2) (lv' := [_, _, _]) eX11_grammar_74 rfl (by decide) rfl ?_
      refine slv_aload_n eX11_grammar_75 rfl ?_
      refine slv_aload_n eX11_grammar_76 rfl ?_
      refine slv_getf eX11_grammar_77 fX11_20 (by repeat (first | assumption | exact sl_up_eq | refine sl_up_ne (by first | decide | omega) ?_)) rfl ?_
      refine slv_putf (fs' := [_, _, _, _, _, _, _, _, _, _, _, _, _, _, _, _]) eX11_grammar_80 fX11_16 (by repeat (first | assumption | exact sl_up_eq | refine sl_up_ne (by first | decide | omega) ?_)) (Nat.le_of_ble_eq_true rfl) rfl rfl rfl ?_
      refine slv_mem (ob_u0 (db' := sb)) ?_
      refine slv_aload_n eX11_grammar_83 rfl ?_
      refine slv_aload_n eX11_grammar_84 rfl ?_
      refine slv_putf (fs' := [_, _, _, _, _, _, _, _, _, _, _, _, _, _, _, _]) eX11_grammar_85 fX11_20 (by repeat (first | assumption | exact sl_up_eq | refine sl_up_ne (by first | decide | omega) ?_)) (Nat.le_of_ble_eq_true rfl) rfl rfl rfl ?_
      refine slv_mem (ob_u0 (sb' := db)) ?_
      refine slv_aload_n eX11_grammar_88 rfl ?_
      refine slv_iconst (v := nI 1) eX11_grammar_89 (by decide) ?_
      refine slv_putf (fs' := [_, _, _, _, _, _, _, _, _, _, _, _, _, _, _, _]) eX11_grammar_90 fX11_97 (by repeat (first | assumption | exact sl_up_eq | refine sl_up_ne (by first | decide | omega) ?_)) (Nat.le_of_ble_eq_true rfl) (by first | rfl | assumption) (by first | rfl | assumption) rfl ?_
      refine slv_mem (ob_u0 (sn' := true)) ?_
      refine slv_aload_n eX11_grammar_93 rfl ?_
      refine slv_getf eX11_grammar_94 fX11_47 (by repeat (first | assumption | exact sl_up_eq | refine sl_up_ne (by first | decide | omega) ?_)) rfl ?_
      refine slv_rV (As := []) eX11_grammar_97 lX11_101 rfl rfl (by repeat (first | assumption | exact sl_up_eq | refine sl_up_ne (by first | decide | omega) ?_)) rfl hCl (by decide) (Nat.le_of_ble_eq_true rfl) ?_
      refine slv_aload_n eX11_grammar_100 rfl ?_
      refine slv_rV (As := []) eX11_grammar_101 lX11_104 rfl rfl (by repeat (first | assumption | exact sl_up_eq | refine sl_up_ne (by first | decide | omega) ?_)) rfl hSe (by decide) (Nat.le_of_ble_eq_true rfl) ?_
      refine slv_aload_n eX11_grammar_104 rfl ?_
      refine slv_aload_n eX11_grammar_105 rfl ?_
      refine slv_getf eX11_grammar_106 fX11_16 (by repeat (first | assumption | exact sl_up_eq | refine sl_up_ne (by first | decide | omega) ?_)) rfl ?_
      refine slv_getf eX11_grammar_109 fX11_107 (by repeat (first | assumption | exact sl_up_eq | refine sl_up_ne (by first | decide | omega) ?_)) rfl ?_
      refine slv_rV (As := [_]) eX11_grammar_112 lX11_110 rfl rfl (by repeat (first | assumption | exact sl_up_eq | refine sl_up_ne (by first | decide | omega) ?_)) rfl (c_X11_grant _) (by decide) (Nat.le_of_ble_eq_true rfl) ?_
      refine slv_iret eX11_grammar_115 rfl ?_
      exact ⟨rfl, rfl⟩
end CGR
