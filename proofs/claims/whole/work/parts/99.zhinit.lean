/-! what the constructors make -/
set_option maxRecDepth 100000 in
theorem c_X2_init_2 {M : sl_M} (hw : nw 3 M) (h0 : M 2 = .inr (2, [.int 0, .int 0, .int 0, .int 0, .null, .null, .null, .null, .null, .null, .null])) : sl_T YX2_init 1 7 125 (fun r M' => r = none ∧ (M' 2 = .inr (2, [.int 0, .int 0, .int 0, .int 0, .ref 3, .ref 4, .ref 5, .ref 6, .ref 7, .ref 8, .ref 9]) ∧ M' 3 = .inl (.int, 6, .inl fun _ => 0) ∧ M' 4 = .inl (.int, 11, .inl fun _ => 0) ∧ M' 5 = .inl (.int, 12, .inl fun _ => 0) ∧ M' 6 = .inl (.int, 12, .inl fun _ => 0) ∧ M' 7 = .inl (.int, 12, .inl fun _ => 0) ∧ M' 8 = .inl (.int, 60, .inl fun _ => 0) ∧ M' 9 = .inl (.boolean, 12, .inl fun _ => 0)) ∧ (∀ k, k < 2 → M' k = M k) ∧ nw 10 M') [.ref 2] M := by
  refine sl_T.of_V (lv := [_]) (by decide) rfl (Nat.le_of_ble_eq_true rfl) ?_
  refine slv_aload_n eX2_init_0 rfl ?_
  refine slv_objInit eX2_init_1 oi_X2 oi_2 oi_3 (by decide) (Nat.le_of_ble_eq_true rfl) ?_
  refine slv_aload_n eX2_init_4 rfl ?_
  refine slv_bipush (v := nI 6) eX2_init_5 (by decide) ?_
  refine slv_nwa (a0 := (6, .inl fun _ => 0)) (kc' := 6) (ks' := 119) eX2_init_7 rfl rfl ac_int (fun _ => rfl) (by decide) (by decide) (by decide) hw (by decide) rfl rfl rfl rfl (fun hw => ?_)
  refine slv_putF (fs' := [.int 0, .int 0, .int 0, .int 0, .ref 3, .null, .null, .null, .null, .null, .null]) eX2_init_9 gX2_9 rfl (by repeat (first | assumption | exact sl_up_eq | refine sl_up_ne (by first | decide | omega) ?_)) (Nat.le_of_ble_eq_true rfl) rfl rfl rfl ?_
  replace hw := nw_up (j := 2) (x := .inr (2, [.int 0, .int 0, .int 0, .int 0, .ref 3, .null, .null, .null, .null, .null, .null])) hw (by decide) rfl (by decide)
  refine slv_aload_n eX2_init_12 rfl ?_
  refine slv_bipush (v := nI 11) eX2_init_13 (by decide) ?_
  refine slv_nwa (a0 := (11, .inl fun _ => 0)) (kc' := 5) (ks' := 108) eX2_init_15 rfl rfl ac_int (fun _ => rfl) (by decide) (by decide) (by decide) hw (by decide) rfl rfl rfl rfl (fun hw => ?_)
  refine slv_putF (fs' := [.int 0, .int 0, .int 0, .int 0, .ref 3, .ref 4, .null, .null, .null, .null, .null]) eX2_init_17 gX2_15 rfl (by repeat (first | assumption | exact sl_up_eq | refine sl_up_ne (by first | decide | omega) ?_)) (Nat.le_of_ble_eq_true rfl) rfl rfl rfl ?_
  replace hw := nw_up (j := 2) (x := .inr (2, [.int 0, .int 0, .int 0, .int 0, .ref 3, .ref 4, .null, .null, .null, .null, .null])) hw (by decide) rfl (by decide)
  refine slv_aload_n eX2_init_20 rfl ?_
  refine slv_bipush (v := nI 12) eX2_init_21 (by decide) ?_
  refine slv_nwa (a0 := (12, .inl fun _ => 0)) (kc' := 4) (ks' := 96) eX2_init_23 rfl rfl ac_int (fun _ => rfl) (by decide) (by decide) (by decide) hw (by decide) rfl rfl rfl rfl (fun hw => ?_)
  refine slv_putF (fs' := [.int 0, .int 0, .int 0, .int 0, .ref 3, .ref 4, .ref 5, .null, .null, .null, .null]) eX2_init_25 gX2_18 rfl (by repeat (first | assumption | exact sl_up_eq | refine sl_up_ne (by first | decide | omega) ?_)) (Nat.le_of_ble_eq_true rfl) rfl rfl rfl ?_
  replace hw := nw_up (j := 2) (x := .inr (2, [.int 0, .int 0, .int 0, .int 0, .ref 3, .ref 4, .ref 5, .null, .null, .null, .null])) hw (by decide) rfl (by decide)
  refine slv_aload_n eX2_init_28 rfl ?_
  refine slv_bipush (v := nI 12) eX2_init_29 (by decide) ?_
  refine slv_nwa (a0 := (12, .inl fun _ => 0)) (kc' := 3) (ks' := 84) eX2_init_31 rfl rfl ac_int (fun _ => rfl) (by decide) (by decide) (by decide) hw (by decide) rfl rfl rfl rfl (fun hw => ?_)
  refine slv_putF (fs' := [.int 0, .int 0, .int 0, .int 0, .ref 3, .ref 4, .ref 5, .ref 6, .null, .null, .null]) eX2_init_33 gX2_21 rfl (by repeat (first | assumption | exact sl_up_eq | refine sl_up_ne (by first | decide | omega) ?_)) (Nat.le_of_ble_eq_true rfl) rfl rfl rfl ?_
  replace hw := nw_up (j := 2) (x := .inr (2, [.int 0, .int 0, .int 0, .int 0, .ref 3, .ref 4, .ref 5, .ref 6, .null, .null, .null])) hw (by decide) rfl (by decide)
  refine slv_aload_n eX2_init_36 rfl ?_
  refine slv_bipush (v := nI 12) eX2_init_37 (by decide) ?_
  refine slv_nwa (a0 := (12, .inl fun _ => 0)) (kc' := 2) (ks' := 72) eX2_init_39 rfl rfl ac_int (fun _ => rfl) (by decide) (by decide) (by decide) hw (by decide) rfl rfl rfl rfl (fun hw => ?_)
  refine slv_putF (fs' := [.int 0, .int 0, .int 0, .int 0, .ref 3, .ref 4, .ref 5, .ref 6, .ref 7, .null, .null]) eX2_init_41 gX2_24 rfl (by repeat (first | assumption | exact sl_up_eq | refine sl_up_ne (by first | decide | omega) ?_)) (Nat.le_of_ble_eq_true rfl) rfl rfl rfl ?_
  replace hw := nw_up (j := 2) (x := .inr (2, [.int 0, .int 0, .int 0, .int 0, .ref 3, .ref 4, .ref 5, .ref 6, .ref 7, .null, .null])) hw (by decide) rfl (by decide)
  refine slv_aload_n eX2_init_44 rfl ?_
  refine slv_bipush (v := nI 60) eX2_init_45 (by decide) ?_
  refine slv_nwa (a0 := (60, .inl fun _ => 0)) (kc' := 1) (ks' := 12) eX2_init_47 rfl rfl ac_int (fun _ => rfl) (by decide) (by decide) (by decide) hw (by decide) rfl rfl rfl rfl (fun hw => ?_)
  refine slv_putF (fs' := [.int 0, .int 0, .int 0, .int 0, .ref 3, .ref 4, .ref 5, .ref 6, .ref 7, .ref 8, .null]) eX2_init_49 gX2_27 rfl (by repeat (first | assumption | exact sl_up_eq | refine sl_up_ne (by first | decide | omega) ?_)) (Nat.le_of_ble_eq_true rfl) rfl rfl rfl ?_
  replace hw := nw_up (j := 2) (x := .inr (2, [.int 0, .int 0, .int 0, .int 0, .ref 3, .ref 4, .ref 5, .ref 6, .ref 7, .ref 8, .null])) hw (by decide) rfl (by decide)
  refine slv_aload_n eX2_init_52 rfl ?_
  refine slv_bipush (v := nI 12) eX2_init_53 (by decide) ?_
  refine slv_nwa (a0 := (12, .inl fun _ => 0)) (kc' := 0) (ks' := 0) eX2_init_55 rfl rfl ac_boolean (fun _ => rfl) (by decide) (by decide) (by decide) hw (by decide) rfl rfl rfl rfl (fun hw => ?_)
  refine slv_putF (fs' := [.int 0, .int 0, .int 0, .int 0, .ref 3, .ref 4, .ref 5, .ref 6, .ref 7, .ref 8, .ref 9]) eX2_init_57 gX2_30 rfl (by repeat (first | assumption | exact sl_up_eq | refine sl_up_ne (by first | decide | omega) ?_)) (Nat.le_of_ble_eq_true rfl) rfl rfl rfl ?_
  replace hw := nw_up (j := 2) (x := .inr (2, [.int 0, .int 0, .int 0, .int 0, .ref 3, .ref 4, .ref 5, .ref 6, .ref 7, .ref 8, .ref 9])) hw (by decide) rfl (by decide)
  refine slv_vret eX2_init_60 rfl ?_
  exact ⟨rfl, ⟨rfl, rfl, rfl, rfl, rfl, rfl, rfl, rfl⟩, fun k hk => by repeat (rw [up_out (by omega)]), hw⟩
set_option maxRecDepth 100000 in
theorem c_X2_init_10 {M : sl_M} (hw : nw 11 M) (h0 : M 10 = .inr (2, [.int 0, .int 0, .int 0, .int 0, .null, .null, .null, .null, .null, .null, .null])) : sl_T YX2_init 1 7 125 (fun r M' => r = none ∧ (M' 10 = .inr (2, [.int 0, .int 0, .int 0, .int 0, .ref 11, .ref 12, .ref 13, .ref 14, .ref 15, .ref 16, .ref 17]) ∧ M' 11 = .inl (.int, 6, .inl fun _ => 0) ∧ M' 12 = .inl (.int, 11, .inl fun _ => 0) ∧ M' 13 = .inl (.int, 12, .inl fun _ => 0) ∧ M' 14 = .inl (.int, 12, .inl fun _ => 0) ∧ M' 15 = .inl (.int, 12, .inl fun _ => 0) ∧ M' 16 = .inl (.int, 60, .inl fun _ => 0) ∧ M' 17 = .inl (.boolean, 12, .inl fun _ => 0)) ∧ (∀ k, k < 10 → M' k = M k) ∧ nw 18 M') [.ref 10] M := by
  refine sl_T.of_V (lv := [_]) (by decide) rfl (Nat.le_of_ble_eq_true rfl) ?_
  refine slv_aload_n eX2_init_0 rfl ?_
  refine slv_objInit eX2_init_1 oi_X2 oi_2 oi_3 (by decide) (Nat.le_of_ble_eq_true rfl) ?_
  refine slv_aload_n eX2_init_4 rfl ?_
  refine slv_bipush (v := nI 6) eX2_init_5 (by decide) ?_
  refine slv_nwa (a0 := (6, .inl fun _ => 0)) (kc' := 6) (ks' := 119) eX2_init_7 rfl rfl ac_int (fun _ => rfl) (by decide) (by decide) (by decide) hw (by decide) rfl rfl rfl rfl (fun hw => ?_)
  refine slv_putF (fs' := [.int 0, .int 0, .int 0, .int 0, .ref 11, .null, .null, .null, .null, .null, .null]) eX2_init_9 gX2_9 rfl (by repeat (first | assumption | exact sl_up_eq | refine sl_up_ne (by first | decide | omega) ?_)) (Nat.le_of_ble_eq_true rfl) rfl rfl rfl ?_
  replace hw := nw_up (j := 10) (x := .inr (2, [.int 0, .int 0, .int 0, .int 0, .ref 11, .null, .null, .null, .null, .null, .null])) hw (by decide) rfl (by decide)
  refine slv_aload_n eX2_init_12 rfl ?_
  refine slv_bipush (v := nI 11) eX2_init_13 (by decide) ?_
  refine slv_nwa (a0 := (11, .inl fun _ => 0)) (kc' := 5) (ks' := 108) eX2_init_15 rfl rfl ac_int (fun _ => rfl) (by decide) (by decide) (by decide) hw (by decide) rfl rfl rfl rfl (fun hw => ?_)
  refine slv_putF (fs' := [.int 0, .int 0, .int 0, .int 0, .ref 11, .ref 12, .null, .null, .null, .null, .null]) eX2_init_17 gX2_15 rfl (by repeat (first | assumption | exact sl_up_eq | refine sl_up_ne (by first | decide | omega) ?_)) (Nat.le_of_ble_eq_true rfl) rfl rfl rfl ?_
  replace hw := nw_up (j := 10) (x := .inr (2, [.int 0, .int 0, .int 0, .int 0, .ref 11, .ref 12, .null, .null, .null, .null, .null])) hw (by decide) rfl (by decide)
  refine slv_aload_n eX2_init_20 rfl ?_
  refine slv_bipush (v := nI 12) eX2_init_21 (by decide) ?_
  refine slv_nwa (a0 := (12, .inl fun _ => 0)) (kc' := 4) (ks' := 96) eX2_init_23 rfl rfl ac_int (fun _ => rfl) (by decide) (by decide) (by decide) hw (by decide) rfl rfl rfl rfl (fun hw => ?_)
  refine slv_putF (fs' := [.int 0, .int 0, .int 0, .int 0, .ref 11, .ref 12, .ref 13, .null, .null, .null, .null]) eX2_init_25 gX2_18 rfl (by repeat (first | assumption | exact sl_up_eq | refine sl_up_ne (by first | decide | omega) ?_)) (Nat.le_of_ble_eq_true rfl) rfl rfl rfl ?_
  replace hw := nw_up (j := 10) (x := .inr (2, [.int 0, .int 0, .int 0, .int 0, .ref 11, .ref 12, .ref 13, .null, .null, .null, .null])) hw (by decide) rfl (by decide)
  refine slv_aload_n eX2_init_28 rfl ?_
  refine slv_bipush (v := nI 12) eX2_init_29 (by decide) ?_
  refine slv_nwa (a0 := (12, .inl fun _ => 0)) (kc' := 3) (ks' := 84) eX2_init_31 rfl rfl ac_int (fun _ => rfl) (by decide) (by decide) (by decide) hw (by decide) rfl rfl rfl rfl (fun hw => ?_)
  refine slv_putF (fs' := [.int 0, .int 0, .int 0, .int 0, .ref 11, .ref 12, .ref 13, .ref 14, .null, .null, .null]) eX2_init_33 gX2_21 rfl (by repeat (first | assumption | exact sl_up_eq | refine sl_up_ne (by first | decide | omega) ?_)) (Nat.le_of_ble_eq_true rfl) rfl rfl rfl ?_
  replace hw := nw_up (j := 10) (x := .inr (2, [.int 0, .int 0, .int 0, .int 0, .ref 11, .ref 12, .ref 13, .ref 14, .null, .null, .null])) hw (by decide) rfl (by decide)
  refine slv_aload_n eX2_init_36 rfl ?_
  refine slv_bipush (v := nI 12) eX2_init_37 (by decide) ?_
  refine slv_nwa (a0 := (12, .inl fun _ => 0)) (kc' := 2) (ks' := 72) eX2_init_39 rfl rfl ac_int (fun _ => rfl) (by decide) (by decide) (by decide) hw (by decide) rfl rfl rfl rfl (fun hw => ?_)
  refine slv_putF (fs' := [.int 0, .int 0, .int 0, .int 0, .ref 11, .ref 12, .ref 13, .ref 14, .ref 15, .null, .null]) eX2_init_41 gX2_24 rfl (by repeat (first | assumption | exact sl_up_eq | refine sl_up_ne (by first | decide | omega) ?_)) (Nat.le_of_ble_eq_true rfl) rfl rfl rfl ?_
  replace hw := nw_up (j := 10) (x := .inr (2, [.int 0, .int 0, .int 0, .int 0, .ref 11, .ref 12, .ref 13, .ref 14, .ref 15, .null, .null])) hw (by decide) rfl (by decide)
  refine slv_aload_n eX2_init_44 rfl ?_
  refine slv_bipush (v := nI 60) eX2_init_45 (by decide) ?_
  refine slv_nwa (a0 := (60, .inl fun _ => 0)) (kc' := 1) (ks' := 12) eX2_init_47 rfl rfl ac_int (fun _ => rfl) (by decide) (by decide) (by decide) hw (by decide) rfl rfl rfl rfl (fun hw => ?_)
  refine slv_putF (fs' := [.int 0, .int 0, .int 0, .int 0, .ref 11, .ref 12, .ref 13, .ref 14, .ref 15, .ref 16, .null]) eX2_init_49 gX2_27 rfl (by repeat (first | assumption | exact sl_up_eq | refine sl_up_ne (by first | decide | omega) ?_)) (Nat.le_of_ble_eq_true rfl) rfl rfl rfl ?_
  replace hw := nw_up (j := 10) (x := .inr (2, [.int 0, .int 0, .int 0, .int 0, .ref 11, .ref 12, .ref 13, .ref 14, .ref 15, .ref 16, .null])) hw (by decide) rfl (by decide)
  refine slv_aload_n eX2_init_52 rfl ?_
  refine slv_bipush (v := nI 12) eX2_init_53 (by decide) ?_
  refine slv_nwa (a0 := (12, .inl fun _ => 0)) (kc' := 0) (ks' := 0) eX2_init_55 rfl rfl ac_boolean (fun _ => rfl) (by decide) (by decide) (by decide) hw (by decide) rfl rfl rfl rfl (fun hw => ?_)
  refine slv_putF (fs' := [.int 0, .int 0, .int 0, .int 0, .ref 11, .ref 12, .ref 13, .ref 14, .ref 15, .ref 16, .ref 17]) eX2_init_57 gX2_30 rfl (by repeat (first | assumption | exact sl_up_eq | refine sl_up_ne (by first | decide | omega) ?_)) (Nat.le_of_ble_eq_true rfl) rfl rfl rfl ?_
  replace hw := nw_up (j := 10) (x := .inr (2, [.int 0, .int 0, .int 0, .int 0, .ref 11, .ref 12, .ref 13, .ref 14, .ref 15, .ref 16, .ref 17])) hw (by decide) rfl (by decide)
  refine slv_vret eX2_init_60 rfl ?_
  exact ⟨rfl, ⟨rfl, rfl, rfl, rfl, rfl, rfl, rfl, rfl⟩, fun k hk => by repeat (rw [up_out (by omega)]), hw⟩
set_option maxRecDepth 100000 in
theorem c_X3_init_18 {M : sl_M} (hw : nw 19 M) (h0 : M 18 = .inr (3, [.int 0, .int 0, .null, .int 0, .int 0, .null, .int 0, .int 0, .int 0, .int 0, .int 0, .int 0, .int 0])) : sl_T YX3_init 1 0 0 (fun r M' => r = none ∧ (M' 18 = .inr (3, [.int 0, .int 0, .null, .int 0, .int 0, .null, .int 0, .int 0, .int 0, .int 0, .int 0, .int 0, .int 0])) ∧ (∀ k, k < 18 → M' k = M k) ∧ nw 19 M') [.ref 18] M := by
  refine sl_T.of_V (lv := [_]) (by decide) rfl (Nat.le_of_ble_eq_true rfl) ?_
  refine slv_aload_n eX3_init_0 rfl ?_
  refine slv_objInit eX3_init_1 oi_X3 oi_2 oi_3 (by decide) (Nat.le_of_ble_eq_true rfl) ?_
  refine slv_vret eX3_init_4 rfl ?_
  exact ⟨rfl, h0, fun k hk => rfl, hw⟩
set_option maxRecDepth 100000 in
theorem c_X10_init_19 {M : sl_M} (hw : nw 20 M) (h0 : M 19 = .inr (9, [.null, .null, .int 0, .null])) : sl_T YX10_init 1 3 156 (fun r M' => r = none ∧ (M' 19 = .inr (9, [.ref 20, .ref 21, .int 0, .ref 22]) ∧ M' 20 = .inl (.int, 6, .inl fun _ => 0) ∧ M' 21 = .inl (.int, 6, .inl fun _ => 0) ∧ M' 22 = .inl (.int, 144, .inl fun _ => 0)) ∧ (∀ k, k < 19 → M' k = M k) ∧ nw 23 M') [.ref 19] M := by
  refine sl_T.of_V (lv := [_]) (by decide) rfl (Nat.le_of_ble_eq_true rfl) ?_
  refine slv_aload_n eX10_init_0 rfl ?_
  refine slv_objInit eX10_init_1 oi_X10 oi_2 oi_3 (by decide) (Nat.le_of_ble_eq_true rfl) ?_
  refine slv_aload_n eX10_init_4 rfl ?_
  refine slv_bipush (v := nI 6) eX10_init_5 (by decide) ?_
  refine slv_nwa (a0 := (6, .inl fun _ => 0)) (kc' := 2) (ks' := 150) eX10_init_7 rfl rfl ac_int (fun _ => rfl) (by decide) (by decide) (by decide) hw (by decide) rfl rfl rfl rfl (fun hw => ?_)
  refine slv_putF (fs' := [.ref 20, .null, .int 0, .null]) eX10_init_9 gX10_9 rfl (by repeat (first | assumption | exact sl_up_eq | refine sl_up_ne (by first | decide | omega) ?_)) (Nat.le_of_ble_eq_true rfl) rfl rfl rfl ?_
  replace hw := nw_up (j := 19) (x := .inr (9, [.ref 20, .null, .int 0, .null])) hw (by decide) rfl (by decide)
  refine slv_aload_n eX10_init_12 rfl ?_
  refine slv_bipush (v := nI 6) eX10_init_13 (by decide) ?_
  refine slv_nwa (a0 := (6, .inl fun _ => 0)) (kc' := 1) (ks' := 144) eX10_init_15 rfl rfl ac_int (fun _ => rfl) (by decide) (by decide) (by decide) hw (by decide) rfl rfl rfl rfl (fun hw => ?_)
  refine slv_putF (fs' := [.ref 20, .ref 21, .int 0, .null]) eX10_init_17 gX10_15 rfl (by repeat (first | assumption | exact sl_up_eq | refine sl_up_ne (by first | decide | omega) ?_)) (Nat.le_of_ble_eq_true rfl) rfl rfl rfl ?_
  replace hw := nw_up (j := 19) (x := .inr (9, [.ref 20, .ref 21, .int 0, .null])) hw (by decide) rfl (by decide)
  refine slv_aload_n eX10_init_20 rfl ?_
  refine slv_sipush (v := nI 144) eX10_init_21 (by decide) ?_
  refine slv_nwa (a0 := (144, .inl fun _ => 0)) (kc' := 0) (ks' := 0) eX10_init_24 rfl rfl ac_int (fun _ => rfl) (by decide) (by decide) (by decide) hw (by decide) rfl rfl rfl rfl (fun hw => ?_)
  refine slv_putF (fs' := [.ref 20, .ref 21, .int 0, .ref 22]) eX10_init_26 gX10_18 rfl (by repeat (first | assumption | exact sl_up_eq | refine sl_up_ne (by first | decide | omega) ?_)) (Nat.le_of_ble_eq_true rfl) rfl rfl rfl ?_
  replace hw := nw_up (j := 19) (x := .inr (9, [.ref 20, .ref 21, .int 0, .ref 22])) hw (by decide) rfl (by decide)
  refine slv_vret eX10_init_29 rfl ?_
  exact ⟨rfl, ⟨rfl, rfl, rfl, rfl⟩, fun k hk => by repeat (rw [up_out (by omega)]), hw⟩
set_option maxRecDepth 100000 in
theorem c_X5_init_23 {M : sl_M} (hw : nw 24 M) (h0 : M 23 = .inr (5, [.int 0, .null, .int 0, .null, .null, .null, .null, .null])) : sl_T YX5_init 1 6 168 (fun r M' => r = none ∧ (M' 23 = .inr (5, [.int 0, .ref 24, .int 0, .ref 25, .ref 26, .ref 27, .ref 28, .ref 29]) ∧ M' 24 = .inl (.int, 28, .inl fun _ => 0) ∧ M' 25 = .inl (.int, 28, .inl fun _ => 0) ∧ M' 26 = .inl (.int, 28, .inl fun _ => 0) ∧ M' 27 = .inl (.int, 28, .inl fun _ => 0) ∧ M' 28 = .inl (.int, 28, .inl fun _ => 0) ∧ M' 29 = .inl (.int, 28, .inl fun _ => 0)) ∧ (∀ k, k < 23 → M' k = M k) ∧ nw 30 M') [.ref 23] M := by
  refine sl_T.of_V (lv := [_]) (by decide) rfl (Nat.le_of_ble_eq_true rfl) ?_
  refine slv_aload_n eX5_init_0 rfl ?_
  refine slv_objInit eX5_init_1 oi_X5 oi_2 oi_3 (by decide) (Nat.le_of_ble_eq_true rfl) ?_
  refine slv_aload_n eX5_init_4 rfl ?_
  refine slv_bipush (v := nI 28) eX5_init_5 (by decide) ?_
  refine slv_nwa (a0 := (28, .inl fun _ => 0)) (kc' := 5) (ks' := 140) eX5_init_7 rfl rfl ac_int (fun _ => rfl) (by decide) (by decide) (by decide) hw (by decide) rfl rfl rfl rfl (fun hw => ?_)
  refine slv_putF (fs' := [.int 0, .ref 24, .int 0, .null, .null, .null, .null, .null]) eX5_init_9 gX5_11 rfl (by repeat (first | assumption | exact sl_up_eq | refine sl_up_ne (by first | decide | omega) ?_)) (Nat.le_of_ble_eq_true rfl) rfl rfl rfl ?_
  replace hw := nw_up (j := 23) (x := .inr (5, [.int 0, .ref 24, .int 0, .null, .null, .null, .null, .null])) hw (by decide) rfl (by decide)
  refine slv_aload_n eX5_init_12 rfl ?_
  refine slv_bipush (v := nI 28) eX5_init_13 (by decide) ?_
  refine slv_nwa (a0 := (28, .inl fun _ => 0)) (kc' := 4) (ks' := 112) eX5_init_15 rfl rfl ac_int (fun _ => rfl) (by decide) (by decide) (by decide) hw (by decide) rfl rfl rfl rfl (fun hw => ?_)
  refine slv_putF (fs' := [.int 0, .ref 24, .int 0, .ref 25, .null, .null, .null, .null]) eX5_init_17 gX5_15 rfl (by repeat (first | assumption | exact sl_up_eq | refine sl_up_ne (by first | decide | omega) ?_)) (Nat.le_of_ble_eq_true rfl) rfl rfl rfl ?_
  replace hw := nw_up (j := 23) (x := .inr (5, [.int 0, .ref 24, .int 0, .ref 25, .null, .null, .null, .null])) hw (by decide) rfl (by decide)
  refine slv_aload_n eX5_init_20 rfl ?_
  refine slv_bipush (v := nI 28) eX5_init_21 (by decide) ?_
  refine slv_nwa (a0 := (28, .inl fun _ => 0)) (kc' := 3) (ks' := 84) eX5_init_23 rfl rfl ac_int (fun _ => rfl) (by decide) (by decide) (by decide) hw (by decide) rfl rfl rfl rfl (fun hw => ?_)
  refine slv_putF (fs' := [.int 0, .ref 24, .int 0, .ref 25, .ref 26, .null, .null, .null]) eX5_init_25 gX5_18 rfl (by repeat (first | assumption | exact sl_up_eq | refine sl_up_ne (by first | decide | omega) ?_)) (Nat.le_of_ble_eq_true rfl) rfl rfl rfl ?_
  replace hw := nw_up (j := 23) (x := .inr (5, [.int 0, .ref 24, .int 0, .ref 25, .ref 26, .null, .null, .null])) hw (by decide) rfl (by decide)
  refine slv_aload_n eX5_init_28 rfl ?_
  refine slv_bipush (v := nI 28) eX5_init_29 (by decide) ?_
  refine slv_nwa (a0 := (28, .inl fun _ => 0)) (kc' := 2) (ks' := 56) eX5_init_31 rfl rfl ac_int (fun _ => rfl) (by decide) (by decide) (by decide) hw (by decide) rfl rfl rfl rfl (fun hw => ?_)
  refine slv_putF (fs' := [.int 0, .ref 24, .int 0, .ref 25, .ref 26, .ref 27, .null, .null]) eX5_init_33 gX5_21 rfl (by repeat (first | assumption | exact sl_up_eq | refine sl_up_ne (by first | decide | omega) ?_)) (Nat.le_of_ble_eq_true rfl) rfl rfl rfl ?_
  replace hw := nw_up (j := 23) (x := .inr (5, [.int 0, .ref 24, .int 0, .ref 25, .ref 26, .ref 27, .null, .null])) hw (by decide) rfl (by decide)
  refine slv_aload_n eX5_init_36 rfl ?_
  refine slv_bipush (v := nI 28) eX5_init_37 (by decide) ?_
  refine slv_nwa (a0 := (28, .inl fun _ => 0)) (kc' := 1) (ks' := 28) eX5_init_39 rfl rfl ac_int (fun _ => rfl) (by decide) (by decide) (by decide) hw (by decide) rfl rfl rfl rfl (fun hw => ?_)
  refine slv_putF (fs' := [.int 0, .ref 24, .int 0, .ref 25, .ref 26, .ref 27, .ref 28, .null]) eX5_init_41 gX5_24 rfl (by repeat (first | assumption | exact sl_up_eq | refine sl_up_ne (by first | decide | omega) ?_)) (Nat.le_of_ble_eq_true rfl) rfl rfl rfl ?_
  replace hw := nw_up (j := 23) (x := .inr (5, [.int 0, .ref 24, .int 0, .ref 25, .ref 26, .ref 27, .ref 28, .null])) hw (by decide) rfl (by decide)
  refine slv_aload_n eX5_init_44 rfl ?_
  refine slv_bipush (v := nI 28) eX5_init_45 (by decide) ?_
  refine slv_nwa (a0 := (28, .inl fun _ => 0)) (kc' := 0) (ks' := 0) eX5_init_47 rfl rfl ac_int (fun _ => rfl) (by decide) (by decide) (by decide) hw (by decide) rfl rfl rfl rfl (fun hw => ?_)
  refine slv_putF (fs' := [.int 0, .ref 24, .int 0, .ref 25, .ref 26, .ref 27, .ref 28, .ref 29]) eX5_init_49 gX5_27 rfl (by repeat (first | assumption | exact sl_up_eq | refine sl_up_ne (by first | decide | omega) ?_)) (Nat.le_of_ble_eq_true rfl) rfl rfl rfl ?_
  replace hw := nw_up (j := 23) (x := .inr (5, [.int 0, .ref 24, .int 0, .ref 25, .ref 26, .ref 27, .ref 28, .ref 29])) hw (by decide) rfl (by decide)
  refine slv_vret eX5_init_52 rfl ?_
  exact ⟨rfl, ⟨rfl, rfl, rfl, rfl, rfl, rfl, rfl⟩, fun k hk => by repeat (rw [up_out (by omega)]), hw⟩
set_option maxRecDepth 100000 in
theorem c_X0_init_30 {M : sl_M} (hw : nw 31 M) (h0 : M 30 = .inr (0, [.int 0, .null, .null])) : sl_T YX0_init 1 2 20 (fun r M' => r = none ∧ (M' 30 = .inr (0, [.int 0, .ref 31, .ref 32]) ∧ M' 31 = .inl (.int, 10, .inl fun _ => 0) ∧ M' 32 = .inl (.int, 10, .inl fun _ => 0)) ∧ (∀ k, k < 30 → M' k = M k) ∧ nw 33 M') [.ref 30] M := by
  refine sl_T.of_V (lv := [_]) (by decide) rfl (Nat.le_of_ble_eq_true rfl) ?_
  refine slv_aload_n eX0_init_0 rfl ?_
  refine slv_objInit eX0_init_1 oi_X0 oi_2 oi_3 (by decide) (Nat.le_of_ble_eq_true rfl) ?_
  refine slv_aload_n eX0_init_4 rfl ?_
  refine slv_bipush (v := nI 10) eX0_init_5 (by decide) ?_
  refine slv_nwa (a0 := (10, .inl fun _ => 0)) (kc' := 1) (ks' := 10) eX0_init_7 rfl rfl ac_int (fun _ => rfl) (by decide) (by decide) (by decide) hw (by decide) rfl rfl rfl rfl (fun hw => ?_)
  refine slv_putF (fs' := [.int 0, .ref 31, .null]) eX0_init_9 gX0_9 rfl (by repeat (first | assumption | exact sl_up_eq | refine sl_up_ne (by first | decide | omega) ?_)) (Nat.le_of_ble_eq_true rfl) rfl rfl rfl ?_
  replace hw := nw_up (j := 30) (x := .inr (0, [.int 0, .ref 31, .null])) hw (by decide) rfl (by decide)
  refine slv_aload_n eX0_init_12 rfl ?_
  refine slv_bipush (v := nI 10) eX0_init_13 (by decide) ?_
  refine slv_nwa (a0 := (10, .inl fun _ => 0)) (kc' := 0) (ks' := 0) eX0_init_15 rfl rfl ac_int (fun _ => rfl) (by decide) (by decide) (by decide) hw (by decide) rfl rfl rfl rfl (fun hw => ?_)
  refine slv_putF (fs' := [.int 0, .ref 31, .ref 32]) eX0_init_17 gX0_15 rfl (by repeat (first | assumption | exact sl_up_eq | refine sl_up_ne (by first | decide | omega) ?_)) (Nat.le_of_ble_eq_true rfl) rfl rfl rfl ?_
  replace hw := nw_up (j := 30) (x := .inr (0, [.int 0, .ref 31, .ref 32])) hw (by decide) rfl (by decide)
  refine slv_vret eX0_init_20 rfl ?_
  exact ⟨rfl, ⟨rfl, rfl, rfl⟩, fun k hk => by repeat (rw [up_out (by omega)]), hw⟩
set_option maxRecDepth 100000 in
theorem c_X1_init_33 {M : sl_M} (hw : nw 34 M) (h0 : M 33 = .inr (1, [.int 0, .int 0, .null, .null, .null, .null, .null, .int 0, .int 0])) : sl_T YX1_init 1 4 240 (fun r M' => r = none ∧ (M' 33 = .inr (1, [.int 0, .int 0, .ref 34, .ref 35, .ref 36, .ref 37, .null, .int 0, .int 0]) ∧ M' 34 = .inl (.int, 60, .inl fun _ => 0) ∧ M' 35 = .inl (.int, 60, .inl fun _ => 0) ∧ M' 36 = .inl (.boolean, 60, .inl fun _ => 0) ∧ M' 37 = .inl (.int, 60, .inl fun _ => 0)) ∧ (∀ k, k < 33 → M' k = M k) ∧ nw 38 M') [.ref 33] M := by
  refine sl_T.of_V (lv := [_]) (by decide) rfl (Nat.le_of_ble_eq_true rfl) ?_
  refine slv_aload_n eX1_init_0 rfl ?_
  refine slv_objInit eX1_init_1 oi_X1 oi_2 oi_3 (by decide) (Nat.le_of_ble_eq_true rfl) ?_
  refine slv_aload_n eX1_init_4 rfl ?_
  refine slv_bipush (v := nI 60) eX1_init_5 (by decide) ?_
  refine slv_nwa (a0 := (60, .inl fun _ => 0)) (kc' := 3) (ks' := 180) eX1_init_7 rfl rfl ac_int (fun _ => rfl) (by decide) (by decide) (by decide) hw (by decide) rfl rfl rfl rfl (fun hw => ?_)
  refine slv_putF (fs' := [.int 0, .int 0, .ref 34, .null, .null, .null, .null, .int 0, .int 0]) eX1_init_9 gX1_9 rfl (by repeat (first | assumption | exact sl_up_eq | refine sl_up_ne (by first | decide | omega) ?_)) (Nat.le_of_ble_eq_true rfl) rfl rfl rfl ?_
  replace hw := nw_up (j := 33) (x := .inr (1, [.int 0, .int 0, .ref 34, .null, .null, .null, .null, .int 0, .int 0])) hw (by decide) rfl (by decide)
  refine slv_aload_n eX1_init_12 rfl ?_
  refine slv_bipush (v := nI 60) eX1_init_13 (by decide) ?_
  refine slv_nwa (a0 := (60, .inl fun _ => 0)) (kc' := 2) (ks' := 120) eX1_init_15 rfl rfl ac_int (fun _ => rfl) (by decide) (by decide) (by decide) hw (by decide) rfl rfl rfl rfl (fun hw => ?_)
  refine slv_putF (fs' := [.int 0, .int 0, .ref 34, .ref 35, .null, .null, .null, .int 0, .int 0]) eX1_init_17 gX1_15 rfl (by repeat (first | assumption | exact sl_up_eq | refine sl_up_ne (by first | decide | omega) ?_)) (Nat.le_of_ble_eq_true rfl) rfl rfl rfl ?_
  replace hw := nw_up (j := 33) (x := .inr (1, [.int 0, .int 0, .ref 34, .ref 35, .null, .null, .null, .int 0, .int 0])) hw (by decide) rfl (by decide)
  refine slv_aload_n eX1_init_20 rfl ?_
  refine slv_bipush (v := nI 60) eX1_init_21 (by decide) ?_
  refine slv_nwa (a0 := (60, .inl fun _ => 0)) (kc' := 1) (ks' := 60) eX1_init_23 rfl rfl ac_boolean (fun _ => rfl) (by decide) (by decide) (by decide) hw (by decide) rfl rfl rfl rfl (fun hw => ?_)
  refine slv_putF (fs' := [.int 0, .int 0, .ref 34, .ref 35, .ref 36, .null, .null, .int 0, .int 0]) eX1_init_25 gX1_18 rfl (by repeat (first | assumption | exact sl_up_eq | refine sl_up_ne (by first | decide | omega) ?_)) (Nat.le_of_ble_eq_true rfl) rfl rfl rfl ?_
  replace hw := nw_up (j := 33) (x := .inr (1, [.int 0, .int 0, .ref 34, .ref 35, .ref 36, .null, .null, .int 0, .int 0])) hw (by decide) rfl (by decide)
  refine slv_aload_n eX1_init_28 rfl ?_
  refine slv_bipush (v := nI 60) eX1_init_29 (by decide) ?_
  refine slv_nwa (a0 := (60, .inl fun _ => 0)) (kc' := 0) (ks' := 0) eX1_init_31 rfl rfl ac_int (fun _ => rfl) (by decide) (by decide) (by decide) hw (by decide) rfl rfl rfl rfl (fun hw => ?_)
  refine slv_putF (fs' := [.int 0, .int 0, .ref 34, .ref 35, .ref 36, .ref 37, .null, .int 0, .int 0]) eX1_init_33 gX1_22 rfl (by repeat (first | assumption | exact sl_up_eq | refine sl_up_ne (by first | decide | omega) ?_)) (Nat.le_of_ble_eq_true rfl) rfl rfl rfl ?_
  replace hw := nw_up (j := 33) (x := .inr (1, [.int 0, .int 0, .ref 34, .ref 35, .ref 36, .ref 37, .null, .int 0, .int 0])) hw (by decide) rfl (by decide)
  refine slv_vret eX1_init_36 rfl ?_
  exact ⟨rfl, ⟨rfl, rfl, rfl, rfl, rfl⟩, fun k hk => by repeat (rw [up_out (by omega)]), hw⟩
set_option maxRecDepth 100000 in
theorem c_X6_init_39 {M : sl_M} (hw : nw 40 M) (h0 : M 39 = .inr (6, [.int 0, .null, .null, .null, .null, .null, .null, .null])) : sl_T YX6_init 1 7 420 (fun r M' => r = none ∧ (M' 39 = .inr (6, [.int 0, .ref 40, .ref 41, .ref 42, .ref 43, .ref 44, .ref 45, .ref 46]) ∧ M' 40 = .inl (.int, 60, .inl fun _ => 0) ∧ M' 41 = .inl (.int, 60, .inl fun _ => 0) ∧ M' 42 = .inl (.int, 60, .inl fun _ => 0) ∧ M' 43 = .inl (.int, 60, .inl fun _ => 0) ∧ M' 44 = .inl (.int, 60, .inl fun _ => 0) ∧ M' 45 = .inl (.boolean, 60, .inl fun _ => 0) ∧ M' 46 = .inl (.int, 60, .inl fun _ => 0)) ∧ (∀ k, k < 39 → M' k = M k) ∧ nw 47 M') [.ref 39] M := by
  refine sl_T.of_V (lv := [_]) (by decide) rfl (Nat.le_of_ble_eq_true rfl) ?_
  refine slv_aload_n eX6_init_0 rfl ?_
  refine slv_objInit eX6_init_1 oi_X6 oi_2 oi_3 (by decide) (Nat.le_of_ble_eq_true rfl) ?_
  refine slv_aload_n eX6_init_4 rfl ?_
  refine slv_bipush (v := nI 60) eX6_init_5 (by decide) ?_
  refine slv_nwa (a0 := (60, .inl fun _ => 0)) (kc' := 6) (ks' := 360) eX6_init_7 rfl rfl ac_int (fun _ => rfl) (by decide) (by decide) (by decide) hw (by decide) rfl rfl rfl rfl (fun hw => ?_)
  refine slv_putF (fs' := [.int 0, .ref 40, .null, .null, .null, .null, .null, .null]) eX6_init_9 gX6_9 rfl (by repeat (first | assumption | exact sl_up_eq | refine sl_up_ne (by first | decide | omega) ?_)) (Nat.le_of_ble_eq_true rfl) rfl rfl rfl ?_
  replace hw := nw_up (j := 39) (x := .inr (6, [.int 0, .ref 40, .null, .null, .null, .null, .null, .null])) hw (by decide) rfl (by decide)
  refine slv_aload_n eX6_init_12 rfl ?_
  refine slv_bipush (v := nI 60) eX6_init_13 (by decide) ?_
  refine slv_nwa (a0 := (60, .inl fun _ => 0)) (kc' := 5) (ks' := 300) eX6_init_15 rfl rfl ac_int (fun _ => rfl) (by decide) (by decide) (by decide) hw (by decide) rfl rfl rfl rfl (fun hw => ?_)
  refine slv_putF (fs' := [.int 0, .ref 40, .ref 41, .null, .null, .null, .null, .null]) eX6_init_17 gX6_15 rfl (by repeat (first | assumption | exact sl_up_eq | refine sl_up_ne (by first | decide | omega) ?_)) (Nat.le_of_ble_eq_true rfl) rfl rfl rfl ?_
  replace hw := nw_up (j := 39) (x := .inr (6, [.int 0, .ref 40, .ref 41, .null, .null, .null, .null, .null])) hw (by decide) rfl (by decide)
  refine slv_aload_n eX6_init_20 rfl ?_
  refine slv_bipush (v := nI 60) eX6_init_21 (by decide) ?_
  refine slv_nwa (a0 := (60, .inl fun _ => 0)) (kc' := 4) (ks' := 240) eX6_init_23 rfl rfl ac_int (fun _ => rfl) (by decide) (by decide) (by decide) hw (by decide) rfl rfl rfl rfl (fun hw => ?_)
  refine slv_putF (fs' := [.int 0, .ref 40, .ref 41, .ref 42, .null, .null, .null, .null]) eX6_init_25 gX6_18 rfl (by repeat (first | assumption | exact sl_up_eq | refine sl_up_ne (by first | decide | omega) ?_)) (Nat.le_of_ble_eq_true rfl) rfl rfl rfl ?_
  replace hw := nw_up (j := 39) (x := .inr (6, [.int 0, .ref 40, .ref 41, .ref 42, .null, .null, .null, .null])) hw (by decide) rfl (by decide)
  refine slv_aload_n eX6_init_28 rfl ?_
  refine slv_bipush (v := nI 60) eX6_init_29 (by decide) ?_
  refine slv_nwa (a0 := (60, .inl fun _ => 0)) (kc' := 3) (ks' := 180) eX6_init_31 rfl rfl ac_int (fun _ => rfl) (by decide) (by decide) (by decide) hw (by decide) rfl rfl rfl rfl (fun hw => ?_)
  refine slv_putF (fs' := [.int 0, .ref 40, .ref 41, .ref 42, .ref 43, .null, .null, .null]) eX6_init_33 gX6_21 rfl (by repeat (first | assumption | exact sl_up_eq | refine sl_up_ne (by first | decide | omega) ?_)) (Nat.le_of_ble_eq_true rfl) rfl rfl rfl ?_
  replace hw := nw_up (j := 39) (x := .inr (6, [.int 0, .ref 40, .ref 41, .ref 42, .ref 43, .null, .null, .null])) hw (by decide) rfl (by decide)
  refine slv_aload_n eX6_init_36 rfl ?_
  refine slv_bipush (v := nI 60) eX6_init_37 (by decide) ?_
  refine slv_nwa (a0 := (60, .inl fun _ => 0)) (kc' := 2) (ks' := 120) eX6_init_39 rfl rfl ac_int (fun _ => rfl) (by decide) (by decide) (by decide) hw (by decide) rfl rfl rfl rfl (fun hw => ?_)
  refine slv_putF (fs' := [.int 0, .ref 40, .ref 41, .ref 42, .ref 43, .ref 44, .null, .null]) eX6_init_41 gX6_24 rfl (by repeat (first | assumption | exact sl_up_eq | refine sl_up_ne (by first | decide | omega) ?_)) (Nat.le_of_ble_eq_true rfl) rfl rfl rfl ?_
  replace hw := nw_up (j := 39) (x := .inr (6, [.int 0, .ref 40, .ref 41, .ref 42, .ref 43, .ref 44, .null, .null])) hw (by decide) rfl (by decide)
  refine slv_aload_n eX6_init_44 rfl ?_
  refine slv_bipush (v := nI 60) eX6_init_45 (by decide) ?_
  refine slv_nwa (a0 := (60, .inl fun _ => 0)) (kc' := 1) (ks' := 60) eX6_init_47 rfl rfl ac_boolean (fun _ => rfl) (by decide) (by decide) (by decide) hw (by decide) rfl rfl rfl rfl (fun hw => ?_)
  refine slv_putF (fs' := [.int 0, .ref 40, .ref 41, .ref 42, .ref 43, .ref 44, .ref 45, .null]) eX6_init_49 gX6_27 rfl (by repeat (first | assumption | exact sl_up_eq | refine sl_up_ne (by first | decide | omega) ?_)) (Nat.le_of_ble_eq_true rfl) rfl rfl rfl ?_
  replace hw := nw_up (j := 39) (x := .inr (6, [.int 0, .ref 40, .ref 41, .ref 42, .ref 43, .ref 44, .ref 45, .null])) hw (by decide) rfl (by decide)
  refine slv_aload_n eX6_init_52 rfl ?_
  refine slv_bipush (v := nI 60) eX6_init_53 (by decide) ?_
  refine slv_nwa (a0 := (60, .inl fun _ => 0)) (kc' := 0) (ks' := 0) eX6_init_55 rfl rfl ac_int (fun _ => rfl) (by decide) (by decide) (by decide) hw (by decide) rfl rfl rfl rfl (fun hw => ?_)
  refine slv_putF (fs' := [.int 0, .ref 40, .ref 41, .ref 42, .ref 43, .ref 44, .ref 45, .ref 46]) eX6_init_57 gX6_31 rfl (by repeat (first | assumption | exact sl_up_eq | refine sl_up_ne (by first | decide | omega) ?_)) (Nat.le_of_ble_eq_true rfl) rfl rfl rfl ?_
  replace hw := nw_up (j := 39) (x := .inr (6, [.int 0, .ref 40, .ref 41, .ref 42, .ref 43, .ref 44, .ref 45, .ref 46])) hw (by decide) rfl (by decide)
  refine slv_vret eX6_init_60 rfl ?_
  exact ⟨rfl, ⟨rfl, rfl, rfl, rfl, rfl, rfl, rfl, rfl⟩, fun k hk => by repeat (rw [up_out (by omega)]), hw⟩
set_option maxRecDepth 100000 in
theorem c_X4_init_50 {M : sl_M} (hw : nw 51 M) (h0 : M 50 = .inr (4, [.int 0, .int 0, .int 0, .null])) : sl_T YX4_init 1 1 31 (fun r M' => r = none ∧ (M' 50 = .inr (4, [.int 0, .int 0, .int 0, .ref 51]) ∧ M' 51 = .inl (.int, 31, .inl fun _ => 0)) ∧ (∀ k, k < 50 → M' k = M k) ∧ nw 52 M') [.ref 50] M := by
  refine sl_T.of_V (lv := [_]) (by decide) rfl (Nat.le_of_ble_eq_true rfl) ?_
  refine slv_aload_n eX4_init_0 rfl ?_
  refine slv_objInit eX4_init_1 oi_X4 oi_2 oi_3 (by decide) (Nat.le_of_ble_eq_true rfl) ?_
  refine slv_aload_n eX4_init_4 rfl ?_
  refine slv_bipush (v := nI 31) eX4_init_5 (by decide) ?_
  refine slv_nwa (a0 := (31, .inl fun _ => 0)) (kc' := 0) (ks' := 0) eX4_init_7 rfl rfl ac_int (fun _ => rfl) (by decide) (by decide) (by decide) hw (by decide) rfl rfl rfl rfl (fun hw => ?_)
  refine slv_putF (fs' := [.int 0, .int 0, .int 0, .ref 51]) eX4_init_9 gX4_9 rfl (by repeat (first | assumption | exact sl_up_eq | refine sl_up_ne (by first | decide | omega) ?_)) (Nat.le_of_ble_eq_true rfl) rfl rfl rfl ?_
  replace hw := nw_up (j := 50) (x := .inr (4, [.int 0, .int 0, .int 0, .ref 51])) hw (by decide) rfl (by decide)
  refine slv_vret eX4_init_12 rfl ?_
  exact ⟨rfl, ⟨rfl, rfl⟩, fun k hk => by repeat (rw [up_out (by omega)]), hw⟩
set_option maxRecDepth 100000 in
theorem c_X9_init_52 {M : sl_M} (hw : nw 53 M) (h0 : M 52 = .inr (8, [.int 0, .int 0])) : sl_T YX9_init 1 0 0 (fun r M' => r = none ∧ (M' 52 = .inr (8, [.int 0, .int 0])) ∧ (∀ k, k < 52 → M' k = M k) ∧ nw 53 M') [.ref 52] M := by
  refine sl_T.of_V (lv := [_]) (by decide) rfl (Nat.le_of_ble_eq_true rfl) ?_
  refine slv_aload_n eX9_init_0 rfl ?_
  refine slv_objInit eX9_init_1 oi_X9 oi_2 oi_3 (by decide) (Nat.le_of_ble_eq_true rfl) ?_
  refine slv_vret eX9_init_4 rfl ?_
  exact ⟨rfl, h0, fun k hk => rfl, hw⟩
set_option maxRecDepth 100000 in
theorem c_X6_init_54 {M : sl_M} (hw : nw 55 M) (h0 : M 54 = .inr (6, [.int 0, .null, .null, .null, .null, .null, .null, .null])) : sl_T YX6_init 1 7 420 (fun r M' => r = none ∧ (M' 54 = .inr (6, [.int 0, .ref 55, .ref 56, .ref 57, .ref 58, .ref 59, .ref 60, .ref 61]) ∧ M' 55 = .inl (.int, 60, .inl fun _ => 0) ∧ M' 56 = .inl (.int, 60, .inl fun _ => 0) ∧ M' 57 = .inl (.int, 60, .inl fun _ => 0) ∧ M' 58 = .inl (.int, 60, .inl fun _ => 0) ∧ M' 59 = .inl (.int, 60, .inl fun _ => 0) ∧ M' 60 = .inl (.boolean, 60, .inl fun _ => 0) ∧ M' 61 = .inl (.int, 60, .inl fun _ => 0)) ∧ (∀ k, k < 54 → M' k = M k) ∧ nw 62 M') [.ref 54] M := by
  refine sl_T.of_V (lv := [_]) (by decide) rfl (Nat.le_of_ble_eq_true rfl) ?_
  refine slv_aload_n eX6_init_0 rfl ?_
  refine slv_objInit eX6_init_1 oi_X6 oi_2 oi_3 (by decide) (Nat.le_of_ble_eq_true rfl) ?_
  refine slv_aload_n eX6_init_4 rfl ?_
  refine slv_bipush (v := nI 60) eX6_init_5 (by decide) ?_
  refine slv_nwa (a0 := (60, .inl fun _ => 0)) (kc' := 6) (ks' := 360) eX6_init_7 rfl rfl ac_int (fun _ => rfl) (by decide) (by decide) (by decide) hw (by decide) rfl rfl rfl rfl (fun hw => ?_)
  refine slv_putF (fs' := [.int 0, .ref 55, .null, .null, .null, .null, .null, .null]) eX6_init_9 gX6_9 rfl (by repeat (first | assumption | exact sl_up_eq | refine sl_up_ne (by first | decide | omega) ?_)) (Nat.le_of_ble_eq_true rfl) rfl rfl rfl ?_
  replace hw := nw_up (j := 54) (x := .inr (6, [.int 0, .ref 55, .null, .null, .null, .null, .null, .null])) hw (by decide) rfl (by decide)
  refine slv_aload_n eX6_init_12 rfl ?_
  refine slv_bipush (v := nI 60) eX6_init_13 (by decide) ?_
  refine slv_nwa (a0 := (60, .inl fun _ => 0)) (kc' := 5) (ks' := 300) eX6_init_15 rfl rfl ac_int (fun _ => rfl) (by decide) (by decide) (by decide) hw (by decide) rfl rfl rfl rfl (fun hw => ?_)
  refine slv_putF (fs' := [.int 0, .ref 55, .ref 56, .null, .null, .null, .null, .null]) eX6_init_17 gX6_15 rfl (by repeat (first | assumption | exact sl_up_eq | refine sl_up_ne (by first | decide | omega) ?_)) (Nat.le_of_ble_eq_true rfl) rfl rfl rfl ?_
  replace hw := nw_up (j := 54) (x := .inr (6, [.int 0, .ref 55, .ref 56, .null, .null, .null, .null, .null])) hw (by decide) rfl (by decide)
  refine slv_aload_n eX6_init_20 rfl ?_
  refine slv_bipush (v := nI 60) eX6_init_21 (by decide) ?_
  refine slv_nwa (a0 := (60, .inl fun _ => 0)) (kc' := 4) (ks' := 240) eX6_init_23 rfl rfl ac_int (fun _ => rfl) (by decide) (by decide) (by decide) hw (by decide) rfl rfl rfl rfl (fun hw => ?_)
  refine slv_putF (fs' := [.int 0, .ref 55, .ref 56, .ref 57, .null, .null, .null, .null]) eX6_init_25 gX6_18 rfl (by repeat (first | assumption | exact sl_up_eq | refine sl_up_ne (by first | decide | omega) ?_)) (Nat.le_of_ble_eq_true rfl) rfl rfl rfl ?_
  replace hw := nw_up (j := 54) (x := .inr (6, [.int 0, .ref 55, .ref 56, .ref 57, .null, .null, .null, .null])) hw (by decide) rfl (by decide)
  refine slv_aload_n eX6_init_28 rfl ?_
  refine slv_bipush (v := nI 60) eX6_init_29 (by decide) ?_
  refine slv_nwa (a0 := (60, .inl fun _ => 0)) (kc' := 3) (ks' := 180) eX6_init_31 rfl rfl ac_int (fun _ => rfl) (by decide) (by decide) (by decide) hw (by decide) rfl rfl rfl rfl (fun hw => ?_)
  refine slv_putF (fs' := [.int 0, .ref 55, .ref 56, .ref 57, .ref 58, .null, .null, .null]) eX6_init_33 gX6_21 rfl (by repeat (first | assumption | exact sl_up_eq | refine sl_up_ne (by first | decide | omega) ?_)) (Nat.le_of_ble_eq_true rfl) rfl rfl rfl ?_
  replace hw := nw_up (j := 54) (x := .inr (6, [.int 0, .ref 55, .ref 56, .ref 57, .ref 58, .null, .null, .null])) hw (by decide) rfl (by decide)
  refine slv_aload_n eX6_init_36 rfl ?_
  refine slv_bipush (v := nI 60) eX6_init_37 (by decide) ?_
  refine slv_nwa (a0 := (60, .inl fun _ => 0)) (kc' := 2) (ks' := 120) eX6_init_39 rfl rfl ac_int (fun _ => rfl) (by decide) (by decide) (by decide) hw (by decide) rfl rfl rfl rfl (fun hw => ?_)
  refine slv_putF (fs' := [.int 0, .ref 55, .ref 56, .ref 57, .ref 58, .ref 59, .null, .null]) eX6_init_41 gX6_24 rfl (by repeat (first | assumption | exact sl_up_eq | refine sl_up_ne (by first | decide | omega) ?_)) (Nat.le_of_ble_eq_true rfl) rfl rfl rfl ?_
  replace hw := nw_up (j := 54) (x := .inr (6, [.int 0, .ref 55, .ref 56, .ref 57, .ref 58, .ref 59, .null, .null])) hw (by decide) rfl (by decide)
  refine slv_aload_n eX6_init_44 rfl ?_
  refine slv_bipush (v := nI 60) eX6_init_45 (by decide) ?_
  refine slv_nwa (a0 := (60, .inl fun _ => 0)) (kc' := 1) (ks' := 60) eX6_init_47 rfl rfl ac_boolean (fun _ => rfl) (by decide) (by decide) (by decide) hw (by decide) rfl rfl rfl rfl (fun hw => ?_)
  refine slv_putF (fs' := [.int 0, .ref 55, .ref 56, .ref 57, .ref 58, .ref 59, .ref 60, .null]) eX6_init_49 gX6_27 rfl (by repeat (first | assumption | exact sl_up_eq | refine sl_up_ne (by first | decide | omega) ?_)) (Nat.le_of_ble_eq_true rfl) rfl rfl rfl ?_
  replace hw := nw_up (j := 54) (x := .inr (6, [.int 0, .ref 55, .ref 56, .ref 57, .ref 58, .ref 59, .ref 60, .null])) hw (by decide) rfl (by decide)
  refine slv_aload_n eX6_init_52 rfl ?_
  refine slv_bipush (v := nI 60) eX6_init_53 (by decide) ?_
  refine slv_nwa (a0 := (60, .inl fun _ => 0)) (kc' := 0) (ks' := 0) eX6_init_55 rfl rfl ac_int (fun _ => rfl) (by decide) (by decide) (by decide) hw (by decide) rfl rfl rfl rfl (fun hw => ?_)
  refine slv_putF (fs' := [.int 0, .ref 55, .ref 56, .ref 57, .ref 58, .ref 59, .ref 60, .ref 61]) eX6_init_57 gX6_31 rfl (by repeat (first | assumption | exact sl_up_eq | refine sl_up_ne (by first | decide | omega) ?_)) (Nat.le_of_ble_eq_true rfl) rfl rfl rfl ?_
  replace hw := nw_up (j := 54) (x := .inr (6, [.int 0, .ref 55, .ref 56, .ref 57, .ref 58, .ref 59, .ref 60, .ref 61])) hw (by decide) rfl (by decide)
  refine slv_vret eX6_init_60 rfl ?_
  exact ⟨rfl, ⟨rfl, rfl, rfl, rfl, rfl, rfl, rfl, rfl⟩, fun k hk => by repeat (rw [up_out (by omega)]), hw⟩
set_option maxRecDepth 100000 in
theorem c_X4_init_65 {M : sl_M} (hw : nw 66 M) (h0 : M 65 = .inr (4, [.int 0, .int 0, .int 0, .null])) : sl_T YX4_init 1 1 31 (fun r M' => r = none ∧ (M' 65 = .inr (4, [.int 0, .int 0, .int 0, .ref 66]) ∧ M' 66 = .inl (.int, 31, .inl fun _ => 0)) ∧ (∀ k, k < 65 → M' k = M k) ∧ nw 67 M') [.ref 65] M := by
  refine sl_T.of_V (lv := [_]) (by decide) rfl (Nat.le_of_ble_eq_true rfl) ?_
  refine slv_aload_n eX4_init_0 rfl ?_
  refine slv_objInit eX4_init_1 oi_X4 oi_2 oi_3 (by decide) (Nat.le_of_ble_eq_true rfl) ?_
  refine slv_aload_n eX4_init_4 rfl ?_
  refine slv_bipush (v := nI 31) eX4_init_5 (by decide) ?_
  refine slv_nwa (a0 := (31, .inl fun _ => 0)) (kc' := 0) (ks' := 0) eX4_init_7 rfl rfl ac_int (fun _ => rfl) (by decide) (by decide) (by decide) hw (by decide) rfl rfl rfl rfl (fun hw => ?_)
  refine slv_putF (fs' := [.int 0, .int 0, .int 0, .ref 66]) eX4_init_9 gX4_9 rfl (by repeat (first | assumption | exact sl_up_eq | refine sl_up_ne (by first | decide | omega) ?_)) (Nat.le_of_ble_eq_true rfl) rfl rfl rfl ?_
  replace hw := nw_up (j := 65) (x := .inr (4, [.int 0, .int 0, .int 0, .ref 66])) hw (by decide) rfl (by decide)
  refine slv_vret eX4_init_12 rfl ?_
  exact ⟨rfl, ⟨rfl, rfl⟩, fun k hk => by repeat (rw [up_out (by omega)]), hw⟩
set_option maxRecDepth 100000 in
theorem c_X9_init_67 {M : sl_M} (hw : nw 68 M) (h0 : M 67 = .inr (8, [.int 0, .int 0])) : sl_T YX9_init 1 0 0 (fun r M' => r = none ∧ (M' 67 = .inr (8, [.int 0, .int 0])) ∧ (∀ k, k < 67 → M' k = M k) ∧ nw 68 M') [.ref 67] M := by
  refine sl_T.of_V (lv := [_]) (by decide) rfl (Nat.le_of_ble_eq_true rfl) ?_
  refine slv_aload_n eX9_init_0 rfl ?_
  refine slv_objInit eX9_init_1 oi_X9 oi_2 oi_3 (by decide) (Nat.le_of_ble_eq_true rfl) ?_
  refine slv_vret eX9_init_4 rfl ?_
  exact ⟨rfl, h0, fun k hk => rfl, hw⟩
