/-! what the reference makes of its values -/
/-- two floats joined -/
def fj (d : Nat) (x y : UInt32) : UInt32 := if d = 0 then FP.fadd x y else if d = 1 then FP.fsub x y else if d = 2 then FP.fmul x y else FP.fdiv x y
section RMK
variable {v : Nat → Int32} {w : Int64} {a : Nat → Nat → Int32} {nm : Nat → Int64} {M : sl_M}
set_option maxRecDepth 100000 in
theorem c_X12_makes (x : Int32) : sl_R YX12_makes 0 [.ref 68, .int x] (rf_S v w a nm M) none (rf_S (sl_u (sl_u v 80 (nI 0)) 79 x) w a nm M) := by
  refine sl_T.of_V (lv := [_, _]) (by decide) rfl (Nat.le_of_ble_eq_true rfl) ?_
  refine slv_aload_n eX12_makes_0 rfl ?_
  refine slv_iconst (v := nI 0) eX12_makes_1 (by decide) ?_
  refine slr_pz eX12_makes_2 fX12_483 (Nat.le_of_ble_eq_true rfl) rfl rfl rf_s80 ?_
  refine slv_aload_n eX12_makes_5 rfl ?_
  refine slv_iload_n eX12_makes_6 rfl ?_
  refine slr_pi eX12_makes_7 fX12_480 (Nat.le_of_ble_eq_true rfl) rf_s79 ?_
  refine slv_vret eX12_makes_10 rfl ?_
  exact ⟨rfl, rfl⟩
set_option maxRecDepth 100000 in
theorem c_X12_makesReal (x : UInt32) : sl_R YX12_makesReal 2 [.ref 68, .float x] (rf_S v w a nm M) none (rf_S (sl_u (sl_u v 80 (nI 1)) 79 (fl_b x)) w a nm M) := by
  refine sl_T.of_V (lv := [_, _]) (by decide) rfl (Nat.le_of_ble_eq_true rfl) ?_
  refine slv_aload_n eX12_makesReal_0 rfl ?_
  refine slv_iconst (v := nI 1) eX12_makesReal_1 (by decide) ?_
  refine slr_pz eX12_makesReal_2 fX12_483 (Nat.le_of_ble_eq_true rfl) rfl rfl rf_s80 ?_
  refine slv_aload_n eX12_makesReal_5 rfl ?_
  refine slv_fload_n eX12_makesReal_6 rfl ?_
  refine slv_rS (As := [_]) eX12_makesReal_7 lX12_432 rfl rfl (c_fbits _ x) (by decide) (Nat.le_of_ble_eq_true rfl) ?_
  refine slr_pi eX12_makesReal_10 fX12_480 (Nat.le_of_ble_eq_true rfl) rf_s79 ?_
  refine slv_vret eX12_makesReal_13 rfl ?_
  exact ⟨rfl, rfl⟩
set_option maxRecDepth 100000 in
theorem c_X12_doesReals {d : Nat} (hd : d < 4) (x y : UInt32) : sl_R YX12_doesReals 3 [.ref 68, .int (nI d), .float x, .float y] (rf_S v w a nm M) none (rf_S (sl_u (sl_u v 80 (nI 1)) 79 (fl_b (fj d x y))) w a nm M) := by
  refine sl_T.of_V (lv := [_, _, _, _]) (by decide) rfl (Nat.le_of_ble_eq_true rfl) ?_
  rcases (show d = 0 ∨ d = 1 ∨ d = 2 ∨ d = 3 by omega) with q | q | q | q <;> subst q
  · refine slv_aload_n eX12_doesReals_0 rfl ?_
    refine slv_iload_n eX12_doesReals_1 rfl ?_
    refine slv_if_ne eX12_doesReals_2 (fun h2 => absurd rfl h2) (fun h2 => ?_)
    refine slv_fload_n eX12_doesReals_5 rfl ?_
    refine slv_fload_n eX12_doesReals_6 rfl ?_
    refine slv_fadd eX12_doesReals_7 (fun r7 a7 => ?_)
    refine slv_goto eX12_doesReals_8 ?_
    refine slv_rV (As := [_]) eX12_doesReals_36 lX12_495 rfl rfl rf_68 rfl (c_X12_makesReal r7) (by decide) (Nat.le_of_ble_eq_true rfl) ?_
    refine slv_vret eX12_doesReals_39 rfl ?_
    exact ⟨rfl, by rw [fl_b_alike a7]; rfl⟩
  · refine slv_aload_n eX12_doesReals_0 rfl ?_
    refine slv_iload_n eX12_doesReals_1 rfl ?_
    refine slv_if_ne eX12_doesReals_2 (fun h2 => ?_) (fun h2 => absurd h2 (by decide))
    refine slv_iload_n eX12_doesReals_11 rfl ?_
    refine slv_iconst (v := nI 1) eX12_doesReals_12 (by decide) ?_
    refine slv_icmp_ne eX12_doesReals_13 (fun h13 => absurd rfl h13) (fun h13 => ?_)
    refine slv_fload_n eX12_doesReals_16 rfl ?_
    refine slv_fload_n eX12_doesReals_17 rfl ?_
    refine slv_fsub eX12_doesReals_18 (fun r18 a18 => ?_)
    refine slv_goto eX12_doesReals_19 ?_
    refine slv_rV (As := [_]) eX12_doesReals_36 lX12_495 rfl rfl rf_68 rfl (c_X12_makesReal r18) (by decide) (Nat.le_of_ble_eq_true rfl) ?_
    refine slv_vret eX12_doesReals_39 rfl ?_
    exact ⟨rfl, by rw [fl_b_alike a18]; rfl⟩
  · refine slv_aload_n eX12_doesReals_0 rfl ?_
    refine slv_iload_n eX12_doesReals_1 rfl ?_
    refine slv_if_ne eX12_doesReals_2 (fun h2 => ?_) (fun h2 => absurd h2 (by decide))
    refine slv_iload_n eX12_doesReals_11 rfl ?_
    refine slv_iconst (v := nI 1) eX12_doesReals_12 (by decide) ?_
    refine slv_icmp_ne eX12_doesReals_13 (fun h13 => ?_) (fun h13 => absurd h13 (by decide))
    refine slv_iload_n eX12_doesReals_22 rfl ?_
    refine slv_iconst (v := nI 2) eX12_doesReals_23 (by decide) ?_
    refine slv_icmp_ne eX12_doesReals_24 (fun h24 => absurd rfl h24) (fun h24 => ?_)
    refine slv_fload_n eX12_doesReals_27 rfl ?_
    refine slv_fload_n eX12_doesReals_28 rfl ?_
    refine slv_fmul eX12_doesReals_29 (fun r29 a29 => ?_)
    refine slv_goto eX12_doesReals_30 ?_
    refine slv_rV (As := [_]) eX12_doesReals_36 lX12_495 rfl rfl rf_68 rfl (c_X12_makesReal r29) (by decide) (Nat.le_of_ble_eq_true rfl) ?_
    refine slv_vret eX12_doesReals_39 rfl ?_
    exact ⟨rfl, by rw [fl_b_alike a29]; rfl⟩
  · refine slv_aload_n eX12_doesReals_0 rfl ?_
    refine slv_iload_n eX12_doesReals_1 rfl ?_
    refine slv_if_ne eX12_doesReals_2 (fun h2 => ?_) (fun h2 => absurd h2 (by decide))
    refine slv_iload_n eX12_doesReals_11 rfl ?_
    refine slv_iconst (v := nI 1) eX12_doesReals_12 (by decide) ?_
    refine slv_icmp_ne eX12_doesReals_13 (fun h13 => ?_) (fun h13 => absurd h13 (by decide))
    refine slv_iload_n eX12_doesReals_22 rfl ?_
    refine slv_iconst (v := nI 2) eX12_doesReals_23 (by decide) ?_
    refine slv_icmp_ne eX12_doesReals_24 (fun h24 => ?_) (fun h24 => absurd h24 (by decide))
    refine slv_fload_n eX12_doesReals_33 rfl ?_
    refine slv_fload_n eX12_doesReals_34 rfl ?_
    refine slv_fdiv eX12_doesReals_35 (fun r35 a35 => ?_)
    refine slv_rV (As := [_]) eX12_doesReals_36 lX12_495 rfl rfl rf_68 rfl (c_X12_makesReal r35) (by decide) (Nat.le_of_ble_eq_true rfl) ?_
    refine slv_vret eX12_doesReals_39 rfl ?_
    exact ⟨rfl, by rw [fl_b_alike a35]; rfl⟩
set_option maxRecDepth 100000 in
theorem c_X12_doesWholes {d : Nat} (hd : d < 4) (x y : Int32) : sl_R YX12_doesWholes 1 [.ref 68, .int (nI d), .int x, .int y] (rf_S v w a nm M) none (rf_S (if d = 3 ∧ y = 0 then sl_u v 62 (nI 6) else sl_u (sl_u v 80 (nI 0)) 79 (rr_w d x y)) w a nm M) := by
  refine sl_T.of_V (lv := [_, _, _, _]) (by decide) rfl (Nat.le_of_ble_eq_true rfl) ?_
  rcases (show d = 0 ∨ d = 1 ∨ d = 2 ∨ d = 3 by omega) with q | q | q | q <;> subst q
  · rw [if_neg (by omega)]
    refine slv_iload_n eX12_doesWholes_0 rfl ?_
    refine slv_iconst (v := nI 3) eX12_doesWholes_1 (by decide) ?_
    refine slv_icmp_ne eX12_doesWholes_2 (fun h2 => ?_) (fun h2 => absurd h2 (by decide))
    refine slv_aload_n eX12_doesWholes_18 rfl ?_
    refine slv_iload_n eX12_doesWholes_19 rfl ?_
    refine slv_if_ne eX12_doesWholes_20 (fun h20 => absurd rfl h20) (fun h20 => ?_)
    refine slv_iload_n eX12_doesWholes_23 rfl ?_
    refine slv_iload_n eX12_doesWholes_24 rfl ?_
    refine slv_iadd eX12_doesWholes_25 ?_
    refine slv_goto eX12_doesWholes_26 ?_
    refine slv_rV (As := [_]) eX12_doesWholes_54 lX12_499 rfl rfl rf_68 rfl (c_X12_makes _) (by decide) (Nat.le_of_ble_eq_true rfl) ?_
    refine slv_vret eX12_doesWholes_57 rfl ?_
    exact ⟨rfl, rfl⟩
  · rw [if_neg (by omega)]
    refine slv_iload_n eX12_doesWholes_0 rfl ?_
    refine slv_iconst (v := nI 3) eX12_doesWholes_1 (by decide) ?_
    refine slv_icmp_ne eX12_doesWholes_2 (fun h2 => ?_) (fun h2 => absurd h2 (by decide))
    refine slv_aload_n eX12_doesWholes_18 rfl ?_
    refine slv_iload_n eX12_doesWholes_19 rfl ?_
    refine slv_if_ne eX12_doesWholes_20 (fun h20 => ?_) (fun h20 => absurd h20 (by decide))
    refine slv_iload_n eX12_doesWholes_29 rfl ?_
    refine slv_iconst (v := nI 1) eX12_doesWholes_30 (by decide) ?_
    refine slv_icmp_ne eX12_doesWholes_31 (fun h31 => absurd rfl h31) (fun h31 => ?_)
    refine slv_iload_n eX12_doesWholes_34 rfl ?_
    refine slv_iload_n eX12_doesWholes_35 rfl ?_
    refine slv_isub eX12_doesWholes_36 ?_
    refine slv_goto eX12_doesWholes_37 ?_
    refine slv_rV (As := [_]) eX12_doesWholes_54 lX12_499 rfl rfl rf_68 rfl (c_X12_makes _) (by decide) (Nat.le_of_ble_eq_true rfl) ?_
    refine slv_vret eX12_doesWholes_57 rfl ?_
    exact ⟨rfl, rfl⟩
  · rw [if_neg (by omega)]
    refine slv_iload_n eX12_doesWholes_0 rfl ?_
    refine slv_iconst (v := nI 3) eX12_doesWholes_1 (by decide) ?_
    refine slv_icmp_ne eX12_doesWholes_2 (fun h2 => ?_) (fun h2 => absurd h2 (by decide))
    refine slv_aload_n eX12_doesWholes_18 rfl ?_
    refine slv_iload_n eX12_doesWholes_19 rfl ?_
    refine slv_if_ne eX12_doesWholes_20 (fun h20 => ?_) (fun h20 => absurd h20 (by decide))
    refine slv_iload_n eX12_doesWholes_29 rfl ?_
    refine slv_iconst (v := nI 1) eX12_doesWholes_30 (by decide) ?_
    refine slv_icmp_ne eX12_doesWholes_31 (fun h31 => ?_) (fun h31 => absurd h31 (by decide))
    refine slv_iload_n eX12_doesWholes_40 rfl ?_
    refine slv_iconst (v := nI 2) eX12_doesWholes_41 (by decide) ?_
    refine slv_icmp_ne eX12_doesWholes_42 (fun h42 => absurd rfl h42) (fun h42 => ?_)
    refine slv_iload_n eX12_doesWholes_45 rfl ?_
    refine slv_iload_n eX12_doesWholes_46 rfl ?_
    refine slv_imul eX12_doesWholes_47 ?_
    refine slv_goto eX12_doesWholes_48 ?_
    refine slv_rV (As := [_]) eX12_doesWholes_54 lX12_499 rfl rfl rf_68 rfl (c_X12_makes _) (by decide) (Nat.le_of_ble_eq_true rfl) ?_
    refine slv_vret eX12_doesWholes_57 rfl ?_
    exact ⟨rfl, rfl⟩
  · by_cases h : y = 0
    · rw [if_pos ⟨rfl, h⟩]
      refine slv_iload_n eX12_doesWholes_0 rfl ?_
      refine slv_iconst (v := nI 3) eX12_doesWholes_1 (by decide) ?_
      refine slv_icmp_ne eX12_doesWholes_2 (fun h2 => absurd rfl h2) (fun h2 => ?_)
      refine slv_iload_n eX12_doesWholes_5 rfl ?_
      refine slv_if_ne eX12_doesWholes_6 (fun h6 => absurd h h6) (fun h6 => ?_)
      refine slv_aload_n eX12_doesWholes_9 rfl ?_
      refine slv_bipush (v := nI 6) eX12_doesWholes_10 (by decide) ?_
      refine slr_pi eX12_doesWholes_12 fX12_441 (Nat.le_of_ble_eq_true rfl) rf_s62 ?_
      refine slv_goto eX12_doesWholes_15 ?_
      refine slv_vret eX12_doesWholes_57 rfl ?_
      exact ⟨rfl, rfl⟩
    · rw [if_neg (fun q => h q.2)]
      have e : rr_w 3 x y = x / y := by unfold rr_w; rw [if_neg (by decide), if_neg (by decide), if_neg (by decide), if_neg h]
      rw [e]
      refine slv_iload_n eX12_doesWholes_0 rfl ?_
      refine slv_iconst (v := nI 3) eX12_doesWholes_1 (by decide) ?_
      refine slv_icmp_ne eX12_doesWholes_2 (fun h2 => absurd rfl h2) (fun h2 => ?_)
      refine slv_iload_n eX12_doesWholes_5 rfl ?_
      refine slv_if_ne eX12_doesWholes_6 (fun h6 => ?_) (fun h6 => absurd h6 h)
      refine slv_aload_n eX12_doesWholes_18 rfl ?_
      refine slv_iload_n eX12_doesWholes_19 rfl ?_
      refine slv_if_ne eX12_doesWholes_20 (fun h20 => ?_) (fun h20 => absurd h20 (by decide))
      refine slv_iload_n eX12_doesWholes_29 rfl ?_
      refine slv_iconst (v := nI 1) eX12_doesWholes_30 (by decide) ?_
      refine slv_icmp_ne eX12_doesWholes_31 (fun h31 => ?_) (fun h31 => absurd h31 (by decide))
      refine slv_iload_n eX12_doesWholes_40 rfl ?_
      refine slv_iconst (v := nI 2) eX12_doesWholes_41 (by decide) ?_
      refine slv_icmp_ne eX12_doesWholes_42 (fun h42 => ?_) (fun h42 => absurd h42 (by decide))
      refine slv_iload_n eX12_doesWholes_51 rfl ?_
      refine slv_iload_n eX12_doesWholes_52 rfl ?_
      refine slv_idiv eX12_doesWholes_53 h ?_
      refine slv_rV (As := [_]) eX12_doesWholes_54 lX12_499 rfl rfl rf_68 rfl (c_X12_makes _) (by decide) (Nat.le_of_ble_eq_true rfl) ?_
      refine slv_vret eX12_doesWholes_57 rfl ?_
      exact ⟨rfl, rfl⟩
end RMK
