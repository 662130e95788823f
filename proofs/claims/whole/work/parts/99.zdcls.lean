/-! SignLadders: formula, otherwise, later -/
section CFO
variable {fd db sb lf lt : Nat} {sn tl : Bool} {lp : Int32} {g : sg_T} {M : sl_M} {e0 : Nat} {l t s : Nat → Int32} {rn e : Nat} {rk kn nu ba : Nat → Nat} {ar re : Nat → Int32} {f : Nat → Int32}
theorem ro_ok_o {b : Nat} (hb : 38 ≤ b) (hd : db = 2 ∨ db = 10) (hg : sg_at db g M) (hok : sg_ok g) (hr : rl_at e0 l t s M) (hl : ld_at rn e rk kn ar re nu ba M) (hk : ∀ p, p < 28 → kn p < 28) (hn : ∀ p, p < 28 → nu p < 1000000) {how : Nat} (hh : how < 2) : ro_ok b how db (ro_o s (sg_terms g) nu kn how) M := by
  rcases (show how = 0 ∨ how = 1 by omega) with q | q <;> subst q
  · exact c_X7_orderR hb hr
  · exact c_X7_orderF hb hd hg hok hl hk hn
theorem ro_e_o (h0 : ∀ x, x < 12 → ro_r s x (sg_terms g) ≠ nI 1 ∧ ro_r s x (sg_terms g) ≠ nI 2) (how : Nat) : ∀ x, x < 12 → ro_o s (sg_terms g) nu kn how x (sg_terms g) ≠ nI 1 ∧ ro_o s (sg_terms g) nu kn how x (sg_terms g) ≠ nI 2 := by
  intro x hx
  unfold ro_o
  split
  · exact h0 x hx
  · exact ro_f_e _ _ _ _
/-- a formula's reading, whichever lies there -/
theorem c_X7_through (hR : rr_all) {b : Nat} (hb : b = 38 ∨ b = 53) (hd : db = 2 ∨ db = 10) (hg : sg_at db g M) (hok : sg_ok g) (hr : rl_at e0 l t s M) (hl : ld_at rn e rk kn ar re nu ba M) (hk : ∀ p, p < 28 → kn p < 28) (hn : ∀ p, p < 28 → nu p < 1000000) (h0 : ∀ x, x < 12 → ro_r s x (sg_terms g) ≠ nI 1 ∧ ro_r s x (sg_terms g) ≠ nI 2) {how : Nat} (hh : how < 2) {ln : Nat} {q : fs_T} (hf : fm_at ln q.1 q.2.1 q.2.2.1 q.2.2.2.1 q.2.2.2.2.1 q.2.2.2.2.2.1 q.2.2.2.2.2.2 M) (hbd : ∀ k, q.1 = some k → k < 900) (hc : q.2.1 ≤ 60) {S : rd_T} {ho : Nat} {gv rv lv fv : Value} (hA : rg_A b ho gv rv lv fv S M) (hS : rd_rest S) : sl_R YX7_readThrough 6 [.ref b, .ref db, .ref 19, .ref 23, .ref 33, .int (nI how)] M none (rg_S b how db (rdS g ln q s nu kn how S) M) := by
  have z := c_X7_readThrough (E := rxE g ln q (ro_o s (sg_terms g) nu kn how)) (bd := q.1) (cn := q.2.1) (at_ := q.2.2.1) (b := b) (ho := how) (gb := db) (M := M) (S := S) (ho0 := ho) (gv := gv) (rv := rv) (lv := lv) (fv := fv) hR ⟨by omega, hd, hg, hok, hf, fun k q => by have := hbd k q; omega, hc, rfl⟩ (ro_ok_o (by omega) hd hg hok hr hl hk hn hh) (ro_e_o h0 how) hS
  rw [rg_self hA] at z
  exact z
set_option maxRecDepth 100000 in
theorem c_X11_formula (hR : rr_all) (hS : st_all) (hd : db = 2 ∨ db = 10) (hg : sg_at db g M) (hok : sg_ok g) (hr : rl_at e0 l t s M) (hl : ld_at rn e rk kn ar re nu ba M) (hk : ∀ p, p < 28 → kn p < 28) (hn : ∀ p, p < 28 → nu p < 1000000) (hrn : rn < 1000) (h0 : sn = true → ∀ x, x < 12 → ro_r s x (sg_terms g) ≠ nI 1 ∧ ro_r s x (sg_terms g) ≠ nI 2) (hT : M 1 = .inl (.byte, 900, .inl f)) (hfd : fd ≤ 900) {x0 x1 x6 x7 x8 : Value} {sg pl : Nat → Nat} {rl : Nat → Bool} {bt : Nat → Int32} (h33 : M 33 = .inr (1, [x0, x1, .ref 34, .ref 35, .ref 36, .ref 37, x6, x7, x8])) (h34 : M 34 = .inl (.int, 60, .inl fun i => nI (sg i))) (h35 : M 35 = .inl (.int, 60, .inl fun i => nI (pl i))) (h36 : M 36 = .inl (.boolean, 60, .inl fun i => sl_bi (rl i))) (h37 : M 37 = .inl (.int, 60, .inl bt)) {S : rd_T} {ho : Nat} {gv rv lv fv : Value} (hA : rg_A 38 ho gv rv lv fv S M) (hrest : rd_rest S) (x y : Int32) : sl_T YX11_formula 8 0 0 (fun r M' => match fq_ask sn fd s rn x y with
    | .inl k => r = some (.int (-1)) ∧ M' = ob_set fd db sb sn tl lf k lp M
    | .inr (ln, how) => r = some (.int (an_steps (rdS g ln (fs_all f ln ln (none, 0, 0, sg, pl, rl, bt)) s nu kn how S))) ∧ M' = ob_set 0 db sb sn true lf (an_stt (rdS g ln (fs_all f ln ln (none, 0, 0, sg, pl, rl, bt)) s nu kn how S)) (an_stp (rdS g ln (fs_all f ln ln (none, 0, 0, sg, pl, rl, bt)) s nu kn how S) lp) (rg_S 38 how db (rdS g ln (fs_all f ln ln (none, 0, 0, sg, pl, rl, bt)) s nu kn how S) (fm_mem ln (fs_all f ln ln (none, 0, 0, sg, pl, rl, bt)) M))) [.ref 0, .int x, .int y] (ob_set fd db sb sn tl lf lt lp M) := by
  refine sl_T.of_V (lv := [_, _, _]) (by decide) rfl (Nat.le_of_ble_eq_true rfl) ?_
  unfold fq_ask
  cases sn with
  | false =>
    refine slv_aload_n eX11_formula_0 rfl ?_
    refine slv_getf eX11_formula_1 fX11_97 (by repeat (first | assumption | exact sl_up_eq | refine sl_up_ne (by first | decide | omega) ?_)) rfl ?_
    refine slv_if_eqB eX11_formula_4 (fun h4 => ?_) (fun h4 => absurd h4 (by decide))
    refine slv_aload_n eX11_formula_16 rfl ?_
    refine slv_iconst (v := nI 1) eX11_formula_17 (by decide) ?_
    refine slv_rV (As := [_]) eX11_formula_18 lX11_76 rfl rfl (by repeat (first | assumption | exact sl_up_eq | refine sl_up_ne (by first | decide | omega) ?_)) rfl (c_X11_refuse 1) (by decide) (Nat.le_of_ble_eq_true rfl) ?_
    refine slv_iret eX11_formula_21 rfl ?_
    exact ⟨rfl, rfl⟩
  | true =>
    have h0 := h0 rfl
    have evr : sl_vr true y 2 = sl_vi y 2 := rfl
    rw [evr]
    cases hy : sl_vi y 2 with
    | none =>
      have y0 : ¬ y = 0 := fun q => by rw [q] at hy; revert hy; decide
      have y1 : ¬ y = 1 := fun q => by rw [q] at hy; revert hy; decide
      refine slv_aload_n eX11_formula_0 rfl ?_
      refine slv_getf eX11_formula_1 fX11_97 (by repeat (first | assumption | exact sl_up_eq | refine sl_up_ne (by first | decide | omega) ?_)) rfl ?_
      refine slv_if_eqB eX11_formula_4 (fun h4 => absurd h4 (by decide)) (fun h4 => ?_)
      refine slv_iload_n eX11_formula_7 rfl ?_
      refine slv_if_eq eX11_formula_8 (fun h8 => absurd h8 y0) (fun h8 => ?_)
      refine slv_iload_n eX11_formula_11 rfl ?_
      refine slv_iconst (v := nI 1) eX11_formula_12 (by decide) ?_
      refine slv_icmp_eq eX11_formula_13 (fun h13 => absurd h13 y1) (fun h13 => ?_)
      refine slv_aload_n eX11_formula_16 rfl ?_
      refine slv_iconst (v := nI 1) eX11_formula_17 (by decide) ?_
      refine slv_rV (As := [_]) eX11_formula_18 lX11_76 rfl rfl (by repeat (first | assumption | exact sl_up_eq | refine sl_up_ne (by first | decide | omega) ?_)) rfl (c_X11_refuse 1) (by decide) (Nat.le_of_ble_eq_true rfl) ?_
      refine slv_iret eX11_formula_21 rfl ?_
      exact ⟨rfl, rfl⟩
    | some how =>
      obtain ⟨ey, hh⟩ := vi_some hy
      subst ey
      have aft : sl_V YX11_formula none 8 0 0 (fun r M' => match (match sl_vi x (fd + 1) with
          | none => Sum.inl 2
          | some ln => cond (an_can s rn how) (Sum.inr (ln, how)) (Sum.inl 5)) with
        | .inl k => r = some (.int (-1)) ∧ M' = ob_set fd db sb true tl lf k lp M
        | .inr (ln, how) => r = some (.int (an_steps (rdS g ln (fs_all f ln ln (none, 0, 0, sg, pl, rl, bt)) s nu kn how S))) ∧ M' = ob_set 0 db sb true true lf (an_stt (rdS g ln (fs_all f ln ln (none, 0, 0, sg, pl, rl, bt)) s nu kn how S)) (an_stp (rdS g ln (fs_all f ln ln (none, 0, 0, sg, pl, rl, bt)) s nu kn how S) lp) (rg_S 38 how db (rdS g ln (fs_all f ln ln (none, 0, 0, sg, pl, rl, bt)) s nu kn how S) (fm_mem ln (fs_all f ln ln (none, 0, 0, sg, pl, rl, bt)) M))) 22 [some (.ref 0), some (.int x), some (.int (nI how))] [] (ob_set fd db sb true tl lf lt lp M) := by
        cases hx : sl_vi x (fd + 1) with
        | none =>
          by_cases hx0 : x < 0
          · refine slv_iload_n eX11_formula_22 rfl ?_
            refine slv_if_lt eX11_formula_23 (fun h23 => ?_) (fun h23 => absurd hx0 h23)
            refine slv_aload_n eX11_formula_34 rfl ?_
            refine slv_iconst (v := nI 2) eX11_formula_35 (by decide) ?_
            refine slv_rV (As := [_]) eX11_formula_36 lX11_76 rfl rfl (by repeat (first | assumption | exact sl_up_eq | refine sl_up_ne (by first | decide | omega) ?_)) rfl (c_X11_refuse 2) (by decide) (Nat.le_of_ble_eq_true rfl) ?_
            refine slv_iret eX11_formula_39 rfl ?_
            exact ⟨rfl, rfl⟩
          · have hx1 : ¬ x ≤ nI fd := fun q => by
              rcases vi_lt (by omega) hx with c | c
              · exact hx0 c
              · exact c (vi_le1 (by omega) q)
            refine slv_iload_n eX11_formula_22 rfl ?_
            refine slv_if_lt eX11_formula_23 (fun h23 => absurd h23 hx0) (fun h23 => ?_)
            refine slv_iload_n eX11_formula_26 rfl ?_
            refine slv_aload_n eX11_formula_27 rfl ?_
            refine slv_getf eX11_formula_28 fX11_68 (by repeat (first | assumption | exact sl_up_eq | refine sl_up_ne (by first | decide | omega) ?_)) rfl ?_
            refine slv_icmp_le eX11_formula_31 (fun h31 => absurd h31 hx1) (fun h31 => ?_)
            refine slv_aload_n eX11_formula_34 rfl ?_
            refine slv_iconst (v := nI 2) eX11_formula_35 (by decide) ?_
            refine slv_rV (As := [_]) eX11_formula_36 lX11_76 rfl rfl (by repeat (first | assumption | exact sl_up_eq | refine sl_up_ne (by first | decide | omega) ?_)) rfl (c_X11_refuse 2) (by decide) (Nat.le_of_ble_eq_true rfl) ?_
            refine slv_iret eX11_formula_39 rfl ?_
            exact ⟨rfl, rfl⟩
        | some ln =>
          obtain ⟨ex, hln⟩ := vi_some hx
          subst ex
          have hx0 : ¬ nI ln < 0 := vi_neg (by omega)
          have hCan := c_X11_canReadBy (fd := fd) (db := db) (sb := sb) (sn := true) (tl := tl) (lf := lf) (lt := lt) (lp := lp) hr hl hrn hh
          dsimp only
          cases hcan : an_can s rn how with
          | false =>
            rw [hcan] at hCan
            refine slv_iload_n eX11_formula_22 rfl ?_
            refine slv_if_lt eX11_formula_23 (fun h23 => absurd h23 hx0) (fun h23 => ?_)
            refine slv_iload_n eX11_formula_26 rfl ?_
            refine slv_aload_n eX11_formula_27 rfl ?_
            refine slv_getf eX11_formula_28 fX11_68 (by repeat (first | assumption | exact sl_up_eq | refine sl_up_ne (by first | decide | omega) ?_)) rfl ?_
            refine slv_icmp_leN eX11_formula_31 (by omega) (by omega) (fun h31 => ?_) (fun h31 => absurd h31 (by omega))
            refine slv_aload_n eX11_formula_40 rfl ?_
            refine slv_iload_n eX11_formula_41 rfl ?_
            refine slv_rV (As := [_]) eX11_formula_42 lX11_205 rfl rfl (by repeat (first | assumption | exact sl_up_eq | refine sl_up_ne (by first | decide | omega) ?_)) rfl hCan (by decide) (Nat.le_of_ble_eq_true rfl) ?_
            refine slv_if_neB eX11_formula_45 (fun h45 => absurd h45 (by decide)) (fun h45 => ?_)
            refine slv_aload_n eX11_formula_48 rfl ?_
            refine slv_iconst (v := nI 5) eX11_formula_49 (by decide) ?_
            refine slv_rV (As := [_]) eX11_formula_50 lX11_76 rfl rfl (by repeat (first | assumption | exact sl_up_eq | refine sl_up_ne (by first | decide | omega) ?_)) rfl (c_X11_refuse 5) (by decide) (Nat.le_of_ble_eq_true rfl) ?_
            refine slv_iret eX11_formula_53 rfl ?_
            exact ⟨rfl, rfl⟩
          | true =>
            rw [hcan] at hCan
            dsimp only [cond_true]
            have hSc := c_X1_scan (M := ob_set fd db sb true tl lf lt lp M) (f := f) (n := ln) hR hS (t_ob_1 hT) (by omega) ((ob_out (by decide)).trans h33) ((ob_out (by decide)).trans h34) ((ob_out (by decide)).trans h35) ((ob_out (by decide)).trans h36) ((ob_out (by decide)).trans h37)
            have hqo := fs_all_ok (f := f) (ln := ln) (show ln ≤ 900 by omega) ln (none, 0, 0, sg, pl, rl, bt) (Nat.zero_le _) (Nat.zero_le _) (fun k q => by cases q)
            generalize fs_all f ln ln (none, 0, 0, sg, pl, rl, bt) = q at *
            have ec : fm_mem ln q (ob_set fd db sb true tl lf lt lp M) = ob_set fd db sb true tl lf lt lp (fm_mem ln q M) := fm_c0
            rw [ec] at hSc
            have hfm : fm_at ln q.1 q.2.1 q.2.2.1 q.2.2.2.1 q.2.2.2.2.1 q.2.2.2.2.2.1 q.2.2.2.2.2.2 (fm_mem ln q M) := fm_of
            have hTh := c_X7_through (M := ob_set 0 db sb true true lf lt lp (fm_mem ln q M)) hR (Or.inl rfl) hd (t_ob_sg hd (t_fm_sg hd hg)) hok (t_ob_rl (t_fm_rl hr)) (t_ob_ld (t_fm_ld hl)) hk hn h0 hh (t_ob_fm hfm) hqo.2.2 hqo.1 (t_ob_rg (Or.inl rfl) (t_fm_rg (Or.inl rfl) hA)) hrest
            have er : rg_S 38 how db (rdS g ln q s nu kn how S) (ob_set 0 db sb true true lf lt lp (fm_mem ln q M)) = ob_set 0 db sb true true lf lt lp (rg_S 38 how db (rdS g ln q s nu kn how S) (fm_mem ln q M)) := rg_c0 (by decide)
            rw [er] at hTh
            have hfa := rdS_fa (g := g) (ln := ln) (s := s) (nu := nu) (kn := kn) (how := how) (S0 := S) (q := q)
            generalize rdS g ln q s nu kn how S = T at *
            have hSt := c_X11_stepsOf (fd := 0) (db := db) (sb := sb) (sn := true) (tl := true) (lf := lf) (lt := lt) (lp := lp) (b := 38) (M := rg_S 38 how db T (fm_mem ln q M)) (by decide) (rg_of)
            have e0 : nI (rd_fa T) = 0 ↔ rd_fa T = 0 := nI_inj (b := 0) (by omega) (by decide)
            have e1 : (if nI (rd_fa T) = 0 then nI (rd_sp T) else -1) = an_steps T := by unfold an_steps; simp only [e0]
            have e2 : (if nI (rd_fa T) = 0 then 0 else 6) = an_stt T := by unfold an_stt; simp only [e0]
            have e3 : (if nI (rd_fa T) = 0 then lp else rd_pl T) = an_stp T lp := by unfold an_stp; simp only [e0]
            rw [e1, e2, e3] at hSt
            have q33 := hfm.1
            have k38 := hA.1
            refine slv_iload_n eX11_formula_22 rfl ?_
            refine slv_if_lt eX11_formula_23 (fun h23 => absurd h23 hx0) (fun h23 => ?_)
            refine slv_iload_n eX11_formula_26 rfl ?_
            refine slv_aload_n eX11_formula_27 rfl ?_
            refine slv_getf eX11_formula_28 fX11_68 (by repeat (first | assumption | exact sl_up_eq | refine sl_up_ne (by first | decide | omega) ?_)) rfl ?_
            refine slv_icmp_leN eX11_formula_31 (by omega) (by omega) (fun h31 => ?_) (fun h31 => absurd h31 (by omega))
            refine slv_aload_n eX11_formula_40 rfl ?_
            refine slv_iload_n eX11_formula_41 rfl ?_
            refine slv_rV (As := [_]) eX11_formula_42 lX11_205 rfl rfl (by repeat (first | assumption | exact sl_up_eq | refine sl_up_ne (by first | decide | omega) ?_)) rfl hCan (by decide) (Nat.le_of_ble_eq_true rfl) ?_
            refine slv_if_neB eX11_formula_45 (fun h45 => ?_) (fun h45 => absurd h45 (by decide))
            refine slv_aload_n eX11_formula_54 rfl ?_
            refine slv_getf eX11_formula_55 fX11_54 (by repeat (first | assumption | exact sl_up_eq | refine sl_up_ne (by first | decide | omega) ?_)) rfl ?_
            refine slv_aload_n eX11_formula_58 rfl ?_
            refine slv_getf eX11_formula_59 fX11_9 (by repeat (first | assumption | exact sl_up_eq | refine sl_up_ne (by first | decide | omega) ?_)) rfl ?_
            refine slv_iload_n eX11_formula_62 rfl ?_
            refine slv_rV (As := [_, _]) eX11_formula_63 lX11_208 rfl rfl (by repeat (first | assumption | exact sl_up_eq | refine sl_up_ne (by first | decide | omega) ?_)) rfl hSc (by decide) (Nat.le_of_ble_eq_true rfl) ?_
            refine slv_aload_n eX11_formula_66 rfl ?_
            refine slv_iconst (v := nI 0) eX11_formula_67 (by decide) ?_
            refine slv_putf (fs' := [_, _, _, _, _, _, _, _, _, _, _, _, _, _, _, _]) eX11_formula_68 fX11_68 (by repeat (first | assumption | exact sl_up_eq | refine sl_up_ne (by first | decide | omega) ?_)) (Nat.le_of_ble_eq_true rfl) rfl rfl rfl ?_
            refine slv_mem (ob_u0 (fd' := 0)) ?_
            refine slv_aload_n eX11_formula_71 rfl ?_
            refine slv_iconst (v := nI 1) eX11_formula_72 (by decide) ?_
            refine slv_putf (fs' := [_, _, _, _, _, _, _, _, _, _, _, _, _, _, _, _]) eX11_formula_73 fX11_212 (by repeat (first | assumption | exact sl_up_eq | refine sl_up_ne (by first | decide | omega) ?_)) (Nat.le_of_ble_eq_true rfl) (by first | rfl | assumption) (by first | rfl | assumption) rfl ?_
            refine slv_mem (ob_u0 (tl' := true)) ?_
            refine slv_aload_n eX11_formula_76 rfl ?_
            refine slv_getf eX11_formula_77 fX11_61 (by repeat (first | assumption | exact sl_up_eq | refine sl_up_ne (by first | decide | omega) ?_)) rfl ?_
            refine slv_aload_n eX11_formula_80 rfl ?_
            refine slv_getf eX11_formula_81 fX11_16 (by repeat (first | assumption | exact sl_up_eq | refine sl_up_ne (by first | decide | omega) ?_)) rfl ?_
            refine slv_aload_n eX11_formula_84 rfl ?_
            refine slv_getf eX11_formula_85 fX11_33 (by repeat (first | assumption | exact sl_up_eq | refine sl_up_ne (by first | decide | omega) ?_)) rfl ?_
            refine slv_aload_n eX11_formula_88 rfl ?_
            refine slv_getf eX11_formula_89 fX11_40 (by repeat (first | assumption | exact sl_up_eq | refine sl_up_ne (by first | decide | omega) ?_)) rfl ?_
            refine slv_aload_n eX11_formula_92 rfl ?_
            refine slv_getf eX11_formula_93 fX11_54 (by repeat (first | assumption | exact sl_up_eq | refine sl_up_ne (by first | decide | omega) ?_)) rfl ?_
            refine slv_iload_n eX11_formula_96 rfl ?_
            refine slv_rV (As := [_, _, _, _, _]) eX11_formula_97 lX11_215 rfl rfl (by repeat (first | assumption | exact sl_up_eq | refine sl_up_ne (by first | decide | omega) ?_)) rfl hTh (by decide) (Nat.le_of_ble_eq_true rfl) ?_
            refine slv_aload_n eX11_formula_100 rfl ?_
            refine slv_aload_n eX11_formula_101 rfl ?_
            refine slv_getf eX11_formula_102 fX11_61 (by repeat (first | assumption | exact sl_up_eq | refine sl_up_ne (by first | decide | omega) ?_)) rfl ?_
            refine slv_rV (As := [_]) eX11_formula_105 lX11_219 rfl rfl (by repeat (first | assumption | exact sl_up_eq | refine sl_up_ne (by first | decide | omega) ?_)) rfl hSt (by decide) (Nat.le_of_ble_eq_true rfl) ?_
            refine slv_iret eX11_formula_108 rfl ?_
            exact ⟨rfl, rfl⟩
      rcases (show how = 0 ∨ how = 1 by omega) with q | q <;> subst q
      · refine slv_aload_n eX11_formula_0 rfl ?_
        refine slv_getf eX11_formula_1 fX11_97 (by repeat (first | assumption | exact sl_up_eq | refine sl_up_ne (by first | decide | omega) ?_)) rfl ?_
        refine slv_if_eqB eX11_formula_4 (fun h4 => absurd h4 (by decide)) (fun h4 => ?_)
        refine slv_iload_n eX11_formula_7 rfl ?_
        refine slv_if_eq eX11_formula_8 (fun h8 => ?_) (fun h8 => absurd rfl h8)
        exact aft
      · refine slv_aload_n eX11_formula_0 rfl ?_
        refine slv_getf eX11_formula_1 fX11_97 (by repeat (first | assumption | exact sl_up_eq | refine sl_up_ne (by first | decide | omega) ?_)) rfl ?_
        refine slv_if_eqB eX11_formula_4 (fun h4 => absurd h4 (by decide)) (fun h4 => ?_)
        refine slv_iload_n eX11_formula_7 rfl ?_
        refine slv_if_eq eX11_formula_8 (fun h8 => absurd h8 (by decide)) (fun h8 => ?_)
        refine slv_iload_n eX11_formula_11 rfl ?_
        refine slv_iconst (v := nI 1) eX11_formula_12 (by decide) ?_
        refine slv_icmp_eq eX11_formula_13 (fun h13 => ?_) (fun h13 => absurd rfl h13)
        exact aft
end CFO
