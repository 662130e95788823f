def an_can (s : Nat → Int32) (rn how : Nat) : Bool := if how = 0 then decide (sl_ct (fun i => sl_cl (s i)) 144 0 = 0) else decide (rn = 0)
def an_steps (S : rd_T) : Int32 := if rd_fa S = 0 then nI (rd_sp S) else -1
def an_stt (S : rd_T) : Nat := if rd_fa S = 0 then 0 else 6
def an_stp (S : rd_T) (lp : Int32) : Int32 := if rd_fa S = 0 then lp else rd_pl S
def ro_o (s : Nat → Int32) (e : Nat) (nu kn : Nat → Nat) (how : Nat) : Nat → Nat → Int32 := if how = 0 then ro_r s else ro_f e nu kn
theorem ro_f_e (e : Nat) (nu kn : Nat → Nat) (x : Nat) : ro_f e nu kn x e ≠ nI 1 ∧ ro_f e nu kn x e ≠ nI 2 := by
  unfold ro_f
  rw [decide_eq_true (rfl : e = e)]
  generalize lk_cp (nu (kn x)) (nu (kn (16 + e))) = cp
  by_cases h4 : cp = 4
  · subst h4
    cases (decide (x = e) && !decide (4 = 1)) with
    | true => exact ⟨by decide, by decide⟩
    | false => exact ⟨by decide, by decide⟩
  · rw [decide_eq_false h4]
    cases (decide (x = e) && !decide (cp = 1)) with
    | true => exact ⟨(by decide : nI 0 ≠ nI 1), (by decide : nI 0 ≠ nI 2)⟩
    | false => exact ⟨(by decide : nI 0 ≠ nI 1), (by decide : nI 0 ≠ nI 2)⟩
section FRX
variable {fd db sb lf lt : Nat} {sn tl : Bool} {lp : Int32} {g : sg_T} {M : sl_M} {e0 : Nat} {l t s : Nat → Int32} {rn e : Nat} {rk kn nu ba : Nat → Nat} {ar re : Nat → Int32}
set_option maxRecDepth 100000 in
theorem c_X11_canReadBy (hr : rl_at e0 l t s M) (hl : ld_at rn e rk kn ar re nu ba M) (hrn : rn < 1000) {how : Nat} (hh : how < 2) : sl_R YX11_canReadBy 3 [.ref 0, .int (nI how)] (ob_set fd db sb sn tl lf lt lp M) (some (.int (sl_bi (an_can s rn how)))) (ob_set fd db sb sn tl lf lt lp M) := by
  have hC := c_X10_clashCount (t_ob_rl (x := .inr (10, [.ref 1, .int (nI fd), .ref db, .ref sb, .int (sl_bi sn), .ref 18, .ref 19, .ref 23, .ref 30, .ref 33, .ref 38, .ref 53, .int (sl_bi tl), .int (nI lf), .int (nI lt), .int lp])) hr)
  have hS := c_X5_stand (t_ob_ld (x := .inr (10, [.ref 1, .int (nI fd), .ref db, .ref sb, .int (sl_bi sn), .ref 18, .ref 19, .ref 23, .ref 30, .ref 33, .ref 38, .ref 53, .int (sl_bi tl), .int (nI lf), .int (nI lt), .int lp])) hl) (by omega)
  have hc := sl_ct_le (fun i => sl_cl (s i)) 144 0
  have q19 := hr.1
  have q23 := hl.1
  unfold an_can
  generalize sl_ct (fun i => sl_cl (s i)) 144 0 = cc at hC hc
  refine sl_T.of_V (lv := [_, _]) (by decide) rfl (Nat.le_of_ble_eq_true rfl) ?_
  rcases (show how = 0 ∨ how = 1 by omega) with q | q <;> subst q
  · refine slv_iload_n eX11_canReadBy_0 rfl ?_
    refine slv_if_ne eX11_canReadBy_1 (fun h1 => absurd (by decide) h1) (fun h1 => ?_)
    refine slv_aload_n eX11_canReadBy_4 rfl ?_
    refine slv_getf eX11_canReadBy_5 fX11_33 (by repeat (first | assumption | exact sl_up_eq | refine sl_up_ne (by first | decide | omega) ?_)) rfl ?_
    refine slv_rV (As := []) eX11_canReadBy_8 lX11_170 rfl rfl (by repeat (first | assumption | exact sl_up_eq | refine sl_up_ne (by first | decide | omega) ?_)) rfl hC (by decide) (Nat.le_of_ble_eq_true rfl) ?_
    refine slv_if_neN eX11_canReadBy_11 (by omega) (fun h11 => ?_) (fun h11 => ?_)
    · refine slv_iconst (v := nI 0) eX11_canReadBy_18 (by decide) ?_
      refine slv_goto eX11_canReadBy_19 ?_
      refine slv_zret eX11_canReadBy_29 rfl rfl ?_
      refine ⟨?_, rfl⟩
      rw [if_pos rfl]
      first | (rw [decide_eq_true h11]; rfl) | (rw [decide_eq_false h11]; rfl) | (rw [decide_eq_false (Nat.pos_iff_ne_zero.mp h11)]; rfl)
    · refine slv_iconst (v := nI 1) eX11_canReadBy_14 (by decide) ?_
      refine slv_goto eX11_canReadBy_15 ?_
      refine slv_zret eX11_canReadBy_29 rfl rfl ?_
      refine ⟨?_, rfl⟩
      rw [if_pos rfl]
      first | (rw [decide_eq_true h11]; rfl) | (rw [decide_eq_false h11]; rfl) | (rw [decide_eq_false (Nat.pos_iff_ne_zero.mp h11)]; rfl)
  · refine slv_iload_n eX11_canReadBy_0 rfl ?_
    refine slv_if_ne eX11_canReadBy_1 (fun h1 => ?_) (fun h1 => absurd h1 (by decide))
    refine slv_aload_n eX11_canReadBy_22 rfl ?_
    refine slv_getf eX11_canReadBy_23 fX11_40 (by repeat (first | assumption | exact sl_up_eq | refine sl_up_ne (by first | decide | omega) ?_)) rfl ?_
    refine slv_rV (As := []) eX11_canReadBy_26 lX11_180 rfl rfl (by repeat (first | assumption | exact sl_up_eq | refine sl_up_ne (by first | decide | omega) ?_)) rfl hS (by decide) (Nat.le_of_ble_eq_true rfl) ?_
    refine slv_zret eX11_canReadBy_29 rfl (sl_bi_nar _) ?_
    refine ⟨?_, rfl⟩
    rw [if_neg (by decide)]
set_option maxRecDepth 100000 in
theorem c_X11_stepsOf {b ho : Nat} {gv rv lv fv : Value} {S : rd_T} (hb : 0 < b) (hA : rg_A b ho gv rv lv fv S M) : sl_R YX11_stepsOf 2 [.ref 0, .ref b] (ob_set fd db sb sn tl lf lt lp M) (some (.int (if nI (rd_fa S) = 0 then nI (rd_sp S) else -1))) (ob_set fd db sb sn tl lf (if nI (rd_fa S) = 0 then 0 else 6) (if nI (rd_fa S) = 0 then lp else rd_pl S) M) := by
  have k0 := hA.1
  refine sl_T.of_V (lv := [_, _]) (by decide) rfl (Nat.le_of_ble_eq_true rfl) ?_
  refine slv_aload_n eX11_stepsOf_0 rfl ?_
  refine slv_getf eX11_stepsOf_1 fX11_223 (by repeat (first | assumption | exact sl_up_eq | refine sl_up_ne (by first | decide | omega) ?_)) rfl ?_
  refine slv_if_ne eX11_stepsOf_4 (fun h4 => ?_) (fun h4 => ?_)
  · refine slv_aload_n eX11_stepsOf_18 rfl ?_
    refine slv_bipush (v := nI 6) eX11_stepsOf_19 (by decide) ?_
    refine slv_aload_n eX11_stepsOf_21 rfl ?_
    refine slv_getf eX11_stepsOf_22 fX11_326 (by repeat (first | assumption | exact sl_up_eq | refine sl_up_ne (by first | decide | omega) ?_)) rfl ?_
    refine slv_rV (As := [_, _]) eX11_stepsOf_25 lX11_93 rfl rfl (by repeat (first | assumption | exact sl_up_eq | refine sl_up_ne (by first | decide | omega) ?_)) rfl (c_X11_refuseAt 6 _) (by decide) (Nat.le_of_ble_eq_true rfl) ?_
    refine slv_iret eX11_stepsOf_28 rfl ?_
    first | (rw [if_pos h4, if_pos h4, if_pos h4]; exact ⟨rfl, rfl⟩) | (rw [if_neg h4, if_neg h4, if_neg h4]; exact ⟨rfl, rfl⟩)
  · refine slv_aload_n eX11_stepsOf_7 rfl ?_
    refine slv_aload_n eX11_stepsOf_8 rfl ?_
    refine slv_getf eX11_stepsOf_9 fX11_229 (by repeat (first | assumption | exact sl_up_eq | refine sl_up_ne (by first | decide | omega) ?_)) rfl ?_
    refine slv_rV (As := [_]) eX11_stepsOf_12 lX11_110 rfl rfl (by repeat (first | assumption | exact sl_up_eq | refine sl_up_ne (by first | decide | omega) ?_)) rfl (c_X11_grant _) (by decide) (Nat.le_of_ble_eq_true rfl) ?_
    refine slv_goto eX11_stepsOf_15 ?_
    refine slv_iret eX11_stepsOf_28 rfl ?_
    first | (rw [if_pos h4, if_pos h4, if_pos h4]; exact ⟨rfl, rfl⟩) | (rw [if_neg h4, if_neg h4, if_neg h4]; exact ⟨rfl, rfl⟩)
end FRX
