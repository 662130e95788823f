/-! what the constructors of the readings and of SignLadders make -/
set_option maxRecDepth 100000 in
theorem c_X7_init_38 {M : sl_M} (hw : nw 39 M) (h0 : M 38 = .inr (7, [.int 0, .int 0, .int 0, .int 0, .int 0, .null, .null, .null, .null, .null, .int 0, .int 0, .int 0, .null, .null, .null, .null, .null])) : sl_T YX7_init 2 14 513 (fun r M' => r = none ∧ (M' 38 = .inr (7, [.int 0, .int 0, .int 0, .int 0, .int 0, .ref 39, .null, .null, .null, .null, .int 0, .int 0, .int 0, .ref 47, .ref 48, .ref 49, .ref 50, .ref 52]) ∧ M' 39 = .inr (6, [.int 0, .ref 40, .ref 41, .ref 42, .ref 43, .ref 44, .ref 45, .ref 46]) ∧ M' 40 = .inl (.int, 60, .inl fun _ => 0) ∧ M' 41 = .inl (.int, 60, .inl fun _ => 0) ∧ M' 42 = .inl (.int, 60, .inl fun _ => 0) ∧ M' 43 = .inl (.int, 60, .inl fun _ => 0) ∧ M' 44 = .inl (.int, 60, .inl fun _ => 0) ∧ M' 45 = .inl (.boolean, 60, .inl fun _ => 0) ∧ M' 46 = .inl (.int, 60, .inl fun _ => 0) ∧ M' 47 = .inl (.int, 16, .inl fun _ => 0) ∧ M' 48 = .inl (.int, 16, .inl fun _ => 0) ∧ M' 49 = .inl (.int, 16, .inl fun _ => 0) ∧ M' 50 = .inr (4, [.int 0, .int 0, .int 0, .ref 51]) ∧ M' 51 = .inl (.int, 31, .inl fun _ => 0) ∧ M' 52 = .inr (8, [.int 0, .int 0])) ∧ (∀ k, k < 38 → M' k = M k) ∧ nw 53 M') [.ref 38] M := by
  refine sl_T.of_V (lv := [_]) (by decide) rfl (Nat.le_of_ble_eq_true rfl) ?_
  refine slv_aload_n eX7_init_0 rfl ?_
  refine slv_objInit eX7_init_1 oi_X7 oi_2 oi_3 (by decide) (Nat.le_of_ble_eq_true rfl) ?_
  refine slv_aload_n eX7_init_4 rfl ?_
  refine slv_nwo (kc' := 13) (ks' := 505) eX7_init_5 nX7_9 hw (by decide) rfl rfl rfl (by decide) rfl rfl (fun hw => ?_)
  refine slv_dup eX7_init_8 rfl ?_
  refine slv_nwc (As := []) (kc' := 6) (ks' := 85) eX7_init_9 lX7_11 rfl rfl (c_X6_init_39 hw (sl_up_eq)) (by decide) (Nat.le_of_ble_eq_true rfl) rfl rfl hw rfl rfl ?_
  rintro _ M1 ⟨rfl, ⟨f1_39, f1_40, f1_41, f1_42, f1_43, f1_44, f1_45, f1_46⟩, hfrM1, hw⟩
  have f1_38 : M1 38 = .inr (7, [.int 0, .int 0, .int 0, .int 0, .int 0, .null, .null, .null, .null, .null, .int 0, .int 0, .int 0, .null, .null, .null, .null, .null]) := (hfrM1 38 (by decide)).trans (sl_up_ne (by decide) (h0))
  refine slv_putF (fs' := [.int 0, .int 0, .int 0, .int 0, .int 0, .ref 39, .null, .null, .null, .null, .int 0, .int 0, .int 0, .null, .null, .null, .null, .null]) eX7_init_12 gX7_12 rfl (f1_38) (Nat.le_of_ble_eq_true rfl) rfl rfl rfl ?_
  replace hw := nw_up (j := 38) (x := .inr (7, [.int 0, .int 0, .int 0, .int 0, .int 0, .ref 39, .null, .null, .null, .null, .int 0, .int 0, .int 0, .null, .null, .null, .null, .null])) hw (by decide) rfl (by decide)
  refine slv_aload_n eX7_init_15 rfl ?_
  refine slv_bipush (v := nI 16) eX7_init_16 (by decide) ?_
  refine slv_nwa (a0 := (16, .inl fun _ => 0)) (kc' := 5) (ks' := 69) eX7_init_18 rfl rfl ac_int (fun _ => rfl) (by decide) (by decide) (by decide) hw (by decide) rfl rfl rfl rfl (fun hw => ?_)
  refine slv_putF (fs' := [.int 0, .int 0, .int 0, .int 0, .int 0, .ref 39, .null, .null, .null, .null, .int 0, .int 0, .int 0, .ref 47, .null, .null, .null, .null]) eX7_init_20 gX7_18 rfl (sl_up_ne (by decide) (sl_up_eq)) (Nat.le_of_ble_eq_true rfl) rfl rfl rfl ?_
  replace hw := nw_up (j := 38) (x := .inr (7, [.int 0, .int 0, .int 0, .int 0, .int 0, .ref 39, .null, .null, .null, .null, .int 0, .int 0, .int 0, .ref 47, .null, .null, .null, .null])) hw (by decide) rfl (by decide)
  refine slv_aload_n eX7_init_23 rfl ?_
  refine slv_bipush (v := nI 16) eX7_init_24 (by decide) ?_
  refine slv_nwa (a0 := (16, .inl fun _ => 0)) (kc' := 4) (ks' := 53) eX7_init_26 rfl rfl ac_int (fun _ => rfl) (by decide) (by decide) (by decide) hw (by decide) rfl rfl rfl rfl (fun hw => ?_)
  refine slv_putF (fs' := [.int 0, .int 0, .int 0, .int 0, .int 0, .ref 39, .null, .null, .null, .null, .int 0, .int 0, .int 0, .ref 47, .ref 48, .null, .null, .null]) eX7_init_28 gX7_22 rfl (sl_up_ne (by decide) (sl_up_eq)) (Nat.le_of_ble_eq_true rfl) rfl rfl rfl ?_
  replace hw := nw_up (j := 38) (x := .inr (7, [.int 0, .int 0, .int 0, .int 0, .int 0, .ref 39, .null, .null, .null, .null, .int 0, .int 0, .int 0, .ref 47, .ref 48, .null, .null, .null])) hw (by decide) rfl (by decide)
  refine slv_aload_n eX7_init_31 rfl ?_
  refine slv_bipush (v := nI 16) eX7_init_32 (by decide) ?_
  refine slv_nwa (a0 := (16, .inl fun _ => 0)) (kc' := 3) (ks' := 37) eX7_init_34 rfl rfl ac_int (fun _ => rfl) (by decide) (by decide) (by decide) hw (by decide) rfl rfl rfl rfl (fun hw => ?_)
  refine slv_putF (fs' := [.int 0, .int 0, .int 0, .int 0, .int 0, .ref 39, .null, .null, .null, .null, .int 0, .int 0, .int 0, .ref 47, .ref 48, .ref 49, .null, .null]) eX7_init_36 gX7_25 rfl (sl_up_ne (by decide) (sl_up_eq)) (Nat.le_of_ble_eq_true rfl) rfl rfl rfl ?_
  replace hw := nw_up (j := 38) (x := .inr (7, [.int 0, .int 0, .int 0, .int 0, .int 0, .ref 39, .null, .null, .null, .null, .int 0, .int 0, .int 0, .ref 47, .ref 48, .ref 49, .null, .null])) hw (by decide) rfl (by decide)
  refine slv_aload_n eX7_init_39 rfl ?_
  refine slv_nwo (kc' := 2) (ks' := 33) eX7_init_40 nX7_28 hw (by decide) rfl rfl rfl (by decide) rfl rfl (fun hw => ?_)
  refine slv_dup eX7_init_43 rfl ?_
  refine slv_nwc (As := []) (kc' := 1) (ks' := 2) eX7_init_44 lX7_30 rfl rfl (c_X4_init_50 hw (sl_up_eq)) (by decide) (Nat.le_of_ble_eq_true rfl) rfl rfl hw rfl rfl ?_
  rintro _ M2 ⟨rfl, ⟨f2_50, f2_51⟩, hfrM2, hw⟩
  have f2_38 : M2 38 = .inr (7, [.int 0, .int 0, .int 0, .int 0, .int 0, .ref 39, .null, .null, .null, .null, .int 0, .int 0, .int 0, .ref 47, .ref 48, .ref 49, .null, .null]) := (hfrM2 38 (by decide)).trans (sl_up_ne (by decide) (sl_up_eq))
  have f2_39 : M2 39 = .inr (6, [.int 0, .ref 40, .ref 41, .ref 42, .ref 43, .ref 44, .ref 45, .ref 46]) := (hfrM2 39 (by decide)).trans (sl_up_ne (by decide) (sl_up_ne (by decide) (sl_up_ne (by decide) (sl_up_ne (by decide) (sl_up_ne (by decide) (sl_up_ne (by decide) (sl_up_ne (by decide) (sl_up_ne (by decide) (f1_39)))))))))
  have f2_40 : M2 40 = .inl (.int, 60, .inl fun _ => 0) := (hfrM2 40 (by decide)).trans (sl_up_ne (by decide) (sl_up_ne (by decide) (sl_up_ne (by decide) (sl_up_ne (by decide) (sl_up_ne (by decide) (sl_up_ne (by decide) (sl_up_ne (by decide) (sl_up_ne (by decide) (f1_40)))))))))
  have f2_41 : M2 41 = .inl (.int, 60, .inl fun _ => 0) := (hfrM2 41 (by decide)).trans (sl_up_ne (by decide) (sl_up_ne (by decide) (sl_up_ne (by decide) (sl_up_ne (by decide) (sl_up_ne (by decide) (sl_up_ne (by decide) (sl_up_ne (by decide) (sl_up_ne (by decide) (f1_41)))))))))
  have f2_42 : M2 42 = .inl (.int, 60, .inl fun _ => 0) := (hfrM2 42 (by decide)).trans (sl_up_ne (by decide) (sl_up_ne (by decide) (sl_up_ne (by decide) (sl_up_ne (by decide) (sl_up_ne (by decide) (sl_up_ne (by decide) (sl_up_ne (by decide) (sl_up_ne (by decide) (f1_42)))))))))
  have f2_43 : M2 43 = .inl (.int, 60, .inl fun _ => 0) := (hfrM2 43 (by decide)).trans (sl_up_ne (by decide) (sl_up_ne (by decide) (sl_up_ne (by decide) (sl_up_ne (by decide) (sl_up_ne (by decide) (sl_up_ne (by decide) (sl_up_ne (by decide) (sl_up_ne (by decide) (f1_43)))))))))
  have f2_44 : M2 44 = .inl (.int, 60, .inl fun _ => 0) := (hfrM2 44 (by decide)).trans (sl_up_ne (by decide) (sl_up_ne (by decide) (sl_up_ne (by decide) (sl_up_ne (by decide) (sl_up_ne (by decide) (sl_up_ne (by decide) (sl_up_ne (by decide) (sl_up_ne (by decide) (f1_44)))))))))
  have f2_45 : M2 45 = .inl (.boolean, 60, .inl fun _ => 0) := (hfrM2 45 (by decide)).trans (sl_up_ne (by decide) (sl_up_ne (by decide) (sl_up_ne (by decide) (sl_up_ne (by decide) (sl_up_ne (by decide) (sl_up_ne (by decide) (sl_up_ne (by decide) (sl_up_ne (by decide) (f1_45)))))))))
  have f2_46 : M2 46 = .inl (.int, 60, .inl fun _ => 0) := (hfrM2 46 (by decide)).trans (sl_up_ne (by decide) (sl_up_ne (by decide) (sl_up_ne (by decide) (sl_up_ne (by decide) (sl_up_ne (by decide) (sl_up_ne (by decide) (sl_up_ne (by decide) (sl_up_ne (by decide) (f1_46)))))))))
  have f2_47 : M2 47 = .inl (.int, 16, .inl fun _ => 0) := (hfrM2 47 (by decide)).trans (sl_up_ne (by decide) (sl_up_ne (by decide) (sl_up_ne (by decide) (sl_up_ne (by decide) (sl_up_ne (by decide) (sl_up_ne (by decide) (sl_up_eq)))))))
  have f2_48 : M2 48 = .inl (.int, 16, .inl fun _ => 0) := (hfrM2 48 (by decide)).trans (sl_up_ne (by decide) (sl_up_ne (by decide) (sl_up_ne (by decide) (sl_up_ne (by decide) (sl_up_eq)))))
  have f2_49 : M2 49 = .inl (.int, 16, .inl fun _ => 0) := (hfrM2 49 (by decide)).trans (sl_up_ne (by decide) (sl_up_ne (by decide) (sl_up_eq)))
  refine slv_putF (fs' := [.int 0, .int 0, .int 0, .int 0, .int 0, .ref 39, .null, .null, .null, .null, .int 0, .int 0, .int 0, .ref 47, .ref 48, .ref 49, .ref 50, .null]) eX7_init_47 gX7_31 rfl (f2_38) (Nat.le_of_ble_eq_true rfl) rfl rfl rfl ?_
  replace hw := nw_up (j := 38) (x := .inr (7, [.int 0, .int 0, .int 0, .int 0, .int 0, .ref 39, .null, .null, .null, .null, .int 0, .int 0, .int 0, .ref 47, .ref 48, .ref 49, .ref 50, .null])) hw (by decide) rfl (by decide)
  refine slv_aload_n eX7_init_50 rfl ?_
  refine slv_nwo (kc' := 0) (ks' := 0) eX7_init_51 nX7_35 hw (by decide) rfl rfl rfl (by decide) rfl rfl (fun hw => ?_)
  refine slv_dup eX7_init_54 rfl ?_
  refine slv_nwc (As := []) (kc' := 0) (ks' := 0) eX7_init_55 lX7_37 rfl rfl (c_X9_init_52 hw (sl_up_eq)) (by decide) (Nat.le_of_ble_eq_true rfl) rfl rfl hw rfl rfl ?_
  rintro _ M3 ⟨rfl, f3_52, hfrM3, hw⟩
  have f3_38 : M3 38 = .inr (7, [.int 0, .int 0, .int 0, .int 0, .int 0, .ref 39, .null, .null, .null, .null, .int 0, .int 0, .int 0, .ref 47, .ref 48, .ref 49, .ref 50, .null]) := (hfrM3 38 (by decide)).trans (sl_up_ne (by decide) (sl_up_eq))
  have f3_39 : M3 39 = .inr (6, [.int 0, .ref 40, .ref 41, .ref 42, .ref 43, .ref 44, .ref 45, .ref 46]) := (hfrM3 39 (by decide)).trans (sl_up_ne (by decide) (sl_up_ne (by decide) (f2_39)))
  have f3_40 : M3 40 = .inl (.int, 60, .inl fun _ => 0) := (hfrM3 40 (by decide)).trans (sl_up_ne (by decide) (sl_up_ne (by decide) (f2_40)))
  have f3_41 : M3 41 = .inl (.int, 60, .inl fun _ => 0) := (hfrM3 41 (by decide)).trans (sl_up_ne (by decide) (sl_up_ne (by decide) (f2_41)))
  have f3_42 : M3 42 = .inl (.int, 60, .inl fun _ => 0) := (hfrM3 42 (by decide)).trans (sl_up_ne (by decide) (sl_up_ne (by decide) (f2_42)))
  have f3_43 : M3 43 = .inl (.int, 60, .inl fun _ => 0) := (hfrM3 43 (by decide)).trans (sl_up_ne (by decide) (sl_up_ne (by decide) (f2_43)))
  have f3_44 : M3 44 = .inl (.int, 60, .inl fun _ => 0) := (hfrM3 44 (by decide)).trans (sl_up_ne (by decide) (sl_up_ne (by decide) (f2_44)))
  have f3_45 : M3 45 = .inl (.boolean, 60, .inl fun _ => 0) := (hfrM3 45 (by decide)).trans (sl_up_ne (by decide) (sl_up_ne (by decide) (f2_45)))
  have f3_46 : M3 46 = .inl (.int, 60, .inl fun _ => 0) := (hfrM3 46 (by decide)).trans (sl_up_ne (by decide) (sl_up_ne (by decide) (f2_46)))
  have f3_47 : M3 47 = .inl (.int, 16, .inl fun _ => 0) := (hfrM3 47 (by decide)).trans (sl_up_ne (by decide) (sl_up_ne (by decide) (f2_47)))
  have f3_48 : M3 48 = .inl (.int, 16, .inl fun _ => 0) := (hfrM3 48 (by decide)).trans (sl_up_ne (by decide) (sl_up_ne (by decide) (f2_48)))
  have f3_49 : M3 49 = .inl (.int, 16, .inl fun _ => 0) := (hfrM3 49 (by decide)).trans (sl_up_ne (by decide) (sl_up_ne (by decide) (f2_49)))
  have f3_50 : M3 50 = .inr (4, [.int 0, .int 0, .int 0, .ref 51]) := (hfrM3 50 (by decide)).trans (sl_up_ne (by decide) (sl_up_ne (by decide) (f2_50)))
  have f3_51 : M3 51 = .inl (.int, 31, .inl fun _ => 0) := (hfrM3 51 (by decide)).trans (sl_up_ne (by decide) (sl_up_ne (by decide) (f2_51)))
  refine slv_putF (fs' := [.int 0, .int 0, .int 0, .int 0, .int 0, .ref 39, .null, .null, .null, .null, .int 0, .int 0, .int 0, .ref 47, .ref 48, .ref 49, .ref 50, .ref 52]) eX7_init_58 gX7_38 rfl (f3_38) (Nat.le_of_ble_eq_true rfl) rfl rfl rfl ?_
  replace hw := nw_up (j := 38) (x := .inr (7, [.int 0, .int 0, .int 0, .int 0, .int 0, .ref 39, .null, .null, .null, .null, .int 0, .int 0, .int 0, .ref 47, .ref 48, .ref 49, .ref 50, .ref 52])) hw (by decide) rfl (by decide)
  refine slv_vret eX7_init_61 rfl ?_
  exact ⟨rfl, ⟨(sl_up_eq), (sl_up_ne (by decide) (f3_39)), (sl_up_ne (by decide) (f3_40)), (sl_up_ne (by decide) (f3_41)), (sl_up_ne (by decide) (f3_42)), (sl_up_ne (by decide) (f3_43)), (sl_up_ne (by decide) (f3_44)), (sl_up_ne (by decide) (f3_45)), (sl_up_ne (by decide) (f3_46)), (sl_up_ne (by decide) (f3_47)), (sl_up_ne (by decide) (f3_48)), (sl_up_ne (by decide) (f3_49)), (sl_up_ne (by decide) (f3_50)), (sl_up_ne (by decide) (f3_51)), (sl_up_ne (by decide) (f3_52))⟩, fun k hk => by repeat (first | rw [up_out (by omega)] | rw [hfrM3 k (by omega)] | rw [hfrM2 k (by omega)] | rw [hfrM1 k (by omega)]), hw⟩
set_option maxRecDepth 100000 in
theorem c_X7_init_53 {M : sl_M} (hw : nw 54 M) (h0 : M 53 = .inr (7, [.int 0, .int 0, .int 0, .int 0, .int 0, .null, .null, .null, .null, .null, .int 0, .int 0, .int 0, .null, .null, .null, .null, .null])) : sl_T YX7_init 2 14 513 (fun r M' => r = none ∧ (M' 53 = .inr (7, [.int 0, .int 0, .int 0, .int 0, .int 0, .ref 54, .null, .null, .null, .null, .int 0, .int 0, .int 0, .ref 62, .ref 63, .ref 64, .ref 65, .ref 67]) ∧ M' 54 = .inr (6, [.int 0, .ref 55, .ref 56, .ref 57, .ref 58, .ref 59, .ref 60, .ref 61]) ∧ M' 55 = .inl (.int, 60, .inl fun _ => 0) ∧ M' 56 = .inl (.int, 60, .inl fun _ => 0) ∧ M' 57 = .inl (.int, 60, .inl fun _ => 0) ∧ M' 58 = .inl (.int, 60, .inl fun _ => 0) ∧ M' 59 = .inl (.int, 60, .inl fun _ => 0) ∧ M' 60 = .inl (.boolean, 60, .inl fun _ => 0) ∧ M' 61 = .inl (.int, 60, .inl fun _ => 0) ∧ M' 62 = .inl (.int, 16, .inl fun _ => 0) ∧ M' 63 = .inl (.int, 16, .inl fun _ => 0) ∧ M' 64 = .inl (.int, 16, .inl fun _ => 0) ∧ M' 65 = .inr (4, [.int 0, .int 0, .int 0, .ref 66]) ∧ M' 66 = .inl (.int, 31, .inl fun _ => 0) ∧ M' 67 = .inr (8, [.int 0, .int 0])) ∧ (∀ k, k < 53 → M' k = M k) ∧ nw 68 M') [.ref 53] M := by
  refine sl_T.of_V (lv := [_]) (by decide) rfl (Nat.le_of_ble_eq_true rfl) ?_
  refine slv_aload_n eX7_init_0 rfl ?_
  refine slv_objInit eX7_init_1 oi_X7 oi_2 oi_3 (by decide) (Nat.le_of_ble_eq_true rfl) ?_
  refine slv_aload_n eX7_init_4 rfl ?_
  refine slv_nwo (kc' := 13) (ks' := 505) eX7_init_5 nX7_9 hw (by decide) rfl rfl rfl (by decide) rfl rfl (fun hw => ?_)
  refine slv_dup eX7_init_8 rfl ?_
  refine slv_nwc (As := []) (kc' := 6) (ks' := 85) eX7_init_9 lX7_11 rfl rfl (c_X6_init_54 hw (sl_up_eq)) (by decide) (Nat.le_of_ble_eq_true rfl) rfl rfl hw rfl rfl ?_
  rintro _ M1 ⟨rfl, ⟨f1_54, f1_55, f1_56, f1_57, f1_58, f1_59, f1_60, f1_61⟩, hfrM1, hw⟩
  have f1_53 : M1 53 = .inr (7, [.int 0, .int 0, .int 0, .int 0, .int 0, .null, .null, .null, .null, .null, .int 0, .int 0, .int 0, .null, .null, .null, .null, .null]) := (hfrM1 53 (by decide)).trans (sl_up_ne (by decide) (h0))
  refine slv_putF (fs' := [.int 0, .int 0, .int 0, .int 0, .int 0, .ref 54, .null, .null, .null, .null, .int 0, .int 0, .int 0, .null, .null, .null, .null, .null]) eX7_init_12 gX7_12 rfl (f1_53) (Nat.le_of_ble_eq_true rfl) rfl rfl rfl ?_
  replace hw := nw_up (j := 53) (x := .inr (7, [.int 0, .int 0, .int 0, .int 0, .int 0, .ref 54, .null, .null, .null, .null, .int 0, .int 0, .int 0, .null, .null, .null, .null, .null])) hw (by decide) rfl (by decide)
  refine slv_aload_n eX7_init_15 rfl ?_
  refine slv_bipush (v := nI 16) eX7_init_16 (by decide) ?_
  refine slv_nwa (a0 := (16, .inl fun _ => 0)) (kc' := 5) (ks' := 69) eX7_init_18 rfl rfl ac_int (fun _ => rfl) (by decide) (by decide) (by decide) hw (by decide) rfl rfl rfl rfl (fun hw => ?_)
  refine slv_putF (fs' := [.int 0, .int 0, .int 0, .int 0, .int 0, .ref 54, .null, .null, .null, .null, .int 0, .int 0, .int 0, .ref 62, .null, .null, .null, .null]) eX7_init_20 gX7_18 rfl (sl_up_ne (by decide) (sl_up_eq)) (Nat.le_of_ble_eq_true rfl) rfl rfl rfl ?_
  replace hw := nw_up (j := 53) (x := .inr (7, [.int 0, .int 0, .int 0, .int 0, .int 0, .ref 54, .null, .null, .null, .null, .int 0, .int 0, .int 0, .ref 62, .null, .null, .null, .null])) hw (by decide) rfl (by decide)
  refine slv_aload_n eX7_init_23 rfl ?_
  refine slv_bipush (v := nI 16) eX7_init_24 (by decide) ?_
  refine slv_nwa (a0 := (16, .inl fun _ => 0)) (kc' := 4) (ks' := 53) eX7_init_26 rfl rfl ac_int (fun _ => rfl) (by decide) (by decide) (by decide) hw (by decide) rfl rfl rfl rfl (fun hw => ?_)
  refine slv_putF (fs' := [.int 0, .int 0, .int 0, .int 0, .int 0, .ref 54, .null, .null, .null, .null, .int 0, .int 0, .int 0, .ref 62, .ref 63, .null, .null, .null]) eX7_init_28 gX7_22 rfl (sl_up_ne (by decide) (sl_up_eq)) (Nat.le_of_ble_eq_true rfl) rfl rfl rfl ?_
  replace hw := nw_up (j := 53) (x := .inr (7, [.int 0, .int 0, .int 0, .int 0, .int 0, .ref 54, .null, .null, .null, .null, .int 0, .int 0, .int 0, .ref 62, .ref 63, .null, .null, .null])) hw (by decide) rfl (by decide)
  refine slv_aload_n eX7_init_31 rfl ?_
  refine slv_bipush (v := nI 16) eX7_init_32 (by decide) ?_
  refine slv_nwa (a0 := (16, .inl fun _ => 0)) (kc' := 3) (ks' := 37) eX7_init_34 rfl rfl ac_int (fun _ => rfl) (by decide) (by decide) (by decide) hw (by decide) rfl rfl rfl rfl (fun hw => ?_)
  refine slv_putF (fs' := [.int 0, .int 0, .int 0, .int 0, .int 0, .ref 54, .null, .null, .null, .null, .int 0, .int 0, .int 0, .ref 62, .ref 63, .ref 64, .null, .null]) eX7_init_36 gX7_25 rfl (sl_up_ne (by decide) (sl_up_eq)) (Nat.le_of_ble_eq_true rfl) rfl rfl rfl ?_
  replace hw := nw_up (j := 53) (x := .inr (7, [.int 0, .int 0, .int 0, .int 0, .int 0, .ref 54, .null, .null, .null, .null, .int 0, .int 0, .int 0, .ref 62, .ref 63, .ref 64, .null, .null])) hw (by decide) rfl (by decide)
  refine slv_aload_n eX7_init_39 rfl ?_
  refine slv_nwo (kc' := 2) (ks' := 33) eX7_init_40 nX7_28 hw (by decide) rfl rfl rfl (by decide) rfl rfl (fun hw => ?_)
  refine slv_dup eX7_init_43 rfl ?_
  refine slv_nwc (As := []) (kc' := 1) (ks' := 2) eX7_init_44 lX7_30 rfl rfl (c_X4_init_65 hw (sl_up_eq)) (by decide) (Nat.le_of_ble_eq_true rfl) rfl rfl hw rfl rfl ?_
  rintro _ M2 ⟨rfl, ⟨f2_65, f2_66⟩, hfrM2, hw⟩
  have f2_53 : M2 53 = .inr (7, [.int 0, .int 0, .int 0, .int 0, .int 0, .ref 54, .null, .null, .null, .null, .int 0, .int 0, .int 0, .ref 62, .ref 63, .ref 64, .null, .null]) := (hfrM2 53 (by decide)).trans (sl_up_ne (by decide) (sl_up_eq))
  have f2_54 : M2 54 = .inr (6, [.int 0, .ref 55, .ref 56, .ref 57, .ref 58, .ref 59, .ref 60, .ref 61]) := (hfrM2 54 (by decide)).trans (sl_up_ne (by decide) (sl_up_ne (by decide) (sl_up_ne (by decide) (sl_up_ne (by decide) (sl_up_ne (by decide) (sl_up_ne (by decide) (sl_up_ne (by decide) (sl_up_ne (by decide) (f1_54)))))))))
  have f2_55 : M2 55 = .inl (.int, 60, .inl fun _ => 0) := (hfrM2 55 (by decide)).trans (sl_up_ne (by decide) (sl_up_ne (by decide) (sl_up_ne (by decide) (sl_up_ne (by decide) (sl_up_ne (by decide) (sl_up_ne (by decide) (sl_up_ne (by decide) (sl_up_ne (by decide) (f1_55)))))))))
  have f2_56 : M2 56 = .inl (.int, 60, .inl fun _ => 0) := (hfrM2 56 (by decide)).trans (sl_up_ne (by decide) (sl_up_ne (by decide) (sl_up_ne (by decide) (sl_up_ne (by decide) (sl_up_ne (by decide) (sl_up_ne (by decide) (sl_up_ne (by decide) (sl_up_ne (by decide) (f1_56)))))))))
  have f2_57 : M2 57 = .inl (.int, 60, .inl fun _ => 0) := (hfrM2 57 (by decide)).trans (sl_up_ne (by decide) (sl_up_ne (by decide) (sl_up_ne (by decide) (sl_up_ne (by decide) (sl_up_ne (by decide) (sl_up_ne (by decide) (sl_up_ne (by decide) (sl_up_ne (by decide) (f1_57)))))))))
  have f2_58 : M2 58 = .inl (.int, 60, .inl fun _ => 0) := (hfrM2 58 (by decide)).trans (sl_up_ne (by decide) (sl_up_ne (by decide) (sl_up_ne (by decide) (sl_up_ne (by decide) (sl_up_ne (by decide) (sl_up_ne (by decide) (sl_up_ne (by decide) (sl_up_ne (by decide) (f1_58)))))))))
  have f2_59 : M2 59 = .inl (.int, 60, .inl fun _ => 0) := (hfrM2 59 (by decide)).trans (sl_up_ne (by decide) (sl_up_ne (by decide) (sl_up_ne (by decide) (sl_up_ne (by decide) (sl_up_ne (by decide) (sl_up_ne (by decide) (sl_up_ne (by decide) (sl_up_ne (by decide) (f1_59)))))))))
  have f2_60 : M2 60 = .inl (.boolean, 60, .inl fun _ => 0) := (hfrM2 60 (by decide)).trans (sl_up_ne (by decide) (sl_up_ne (by decide) (sl_up_ne (by decide) (sl_up_ne (by decide) (sl_up_ne (by decide) (sl_up_ne (by decide) (sl_up_ne (by decide) (sl_up_ne (by decide) (f1_60)))))))))
  have f2_61 : M2 61 = .inl (.int, 60, .inl fun _ => 0) := (hfrM2 61 (by decide)).trans (sl_up_ne (by decide) (sl_up_ne (by decide) (sl_up_ne (by decide) (sl_up_ne (by decide) (sl_up_ne (by decide) (sl_up_ne (by decide) (sl_up_ne (by decide) (sl_up_ne (by decide) (f1_61)))))))))
  have f2_62 : M2 62 = .inl (.int, 16, .inl fun _ => 0) := (hfrM2 62 (by decide)).trans (sl_up_ne (by decide) (sl_up_ne (by decide) (sl_up_ne (by decide) (sl_up_ne (by decide) (sl_up_ne (by decide) (sl_up_ne (by decide) (sl_up_eq)))))))
  have f2_63 : M2 63 = .inl (.int, 16, .inl fun _ => 0) := (hfrM2 63 (by decide)).trans (sl_up_ne (by decide) (sl_up_ne (by decide) (sl_up_ne (by decide) (sl_up_ne (by decide) (sl_up_eq)))))
  have f2_64 : M2 64 = .inl (.int, 16, .inl fun _ => 0) := (hfrM2 64 (by decide)).trans (sl_up_ne (by decide) (sl_up_ne (by decide) (sl_up_eq)))
  refine slv_putF (fs' := [.int 0, .int 0, .int 0, .int 0, .int 0, .ref 54, .null, .null, .null, .null, .int 0, .int 0, .int 0, .ref 62, .ref 63, .ref 64, .ref 65, .null]) eX7_init_47 gX7_31 rfl (f2_53) (Nat.le_of_ble_eq_true rfl) rfl rfl rfl ?_
  replace hw := nw_up (j := 53) (x := .inr (7, [.int 0, .int 0, .int 0, .int 0, .int 0, .ref 54, .null, .null, .null, .null, .int 0, .int 0, .int 0, .ref 62, .ref 63, .ref 64, .ref 65, .null])) hw (by decide) rfl (by decide)
  refine slv_aload_n eX7_init_50 rfl ?_
  refine slv_nwo (kc' := 0) (ks' := 0) eX7_init_51 nX7_35 hw (by decide) rfl rfl rfl (by decide) rfl rfl (fun hw => ?_)
  refine slv_dup eX7_init_54 rfl ?_
  refine slv_nwc (As := []) (kc' := 0) (ks' := 0) eX7_init_55 lX7_37 rfl rfl (c_X9_init_67 hw (sl_up_eq)) (by decide) (Nat.le_of_ble_eq_true rfl) rfl rfl hw rfl rfl ?_
  rintro _ M3 ⟨rfl, f3_67, hfrM3, hw⟩
  have f3_53 : M3 53 = .inr (7, [.int 0, .int 0, .int 0, .int 0, .int 0, .ref 54, .null, .null, .null, .null, .int 0, .int 0, .int 0, .ref 62, .ref 63, .ref 64, .ref 65, .null]) := (hfrM3 53 (by decide)).trans (sl_up_ne (by decide) (sl_up_eq))
  have f3_54 : M3 54 = .inr (6, [.int 0, .ref 55, .ref 56, .ref 57, .ref 58, .ref 59, .ref 60, .ref 61]) := (hfrM3 54 (by decide)).trans (sl_up_ne (by decide) (sl_up_ne (by decide) (f2_54)))
  have f3_55 : M3 55 = .inl (.int, 60, .inl fun _ => 0) := (hfrM3 55 (by decide)).trans (sl_up_ne (by decide) (sl_up_ne (by decide) (f2_55)))
  have f3_56 : M3 56 = .inl (.int, 60, .inl fun _ => 0) := (hfrM3 56 (by decide)).trans (sl_up_ne (by decide) (sl_up_ne (by decide) (f2_56)))
  have f3_57 : M3 57 = .inl (.int, 60, .inl fun _ => 0) := (hfrM3 57 (by decide)).trans (sl_up_ne (by decide) (sl_up_ne (by decide) (f2_57)))
  have f3_58 : M3 58 = .inl (.int, 60, .inl fun _ => 0) := (hfrM3 58 (by decide)).trans (sl_up_ne (by decide) (sl_up_ne (by decide) (f2_58)))
  have f3_59 : M3 59 = .inl (.int, 60, .inl fun _ => 0) := (hfrM3 59 (by decide)).trans (sl_up_ne (by decide) (sl_up_ne (by decide) (f2_59)))
  have f3_60 : M3 60 = .inl (.boolean, 60, .inl fun _ => 0) := (hfrM3 60 (by decide)).trans (sl_up_ne (by decide) (sl_up_ne (by decide) (f2_60)))
  have f3_61 : M3 61 = .inl (.int, 60, .inl fun _ => 0) := (hfrM3 61 (by decide)).trans (sl_up_ne (by decide) (sl_up_ne (by decide) (f2_61)))
  have f3_62 : M3 62 = .inl (.int, 16, .inl fun _ => 0) := (hfrM3 62 (by decide)).trans (sl_up_ne (by decide) (sl_up_ne (by decide) (f2_62)))
  have f3_63 : M3 63 = .inl (.int, 16, .inl fun _ => 0) := (hfrM3 63 (by decide)).trans (sl_up_ne (by decide) (sl_up_ne (by decide) (f2_63)))
  have f3_64 : M3 64 = .inl (.int, 16, .inl fun _ => 0) := (hfrM3 64 (by decide)).trans (sl_up_ne (by decide) (sl_up_ne (by decide) (f2_64)))
  have f3_65 : M3 65 = .inr (4, [.int 0, .int 0, .int 0, .ref 66]) := (hfrM3 65 (by decide)).trans (sl_up_ne (by decide) (sl_up_ne (by decide) (f2_65)))
  have f3_66 : M3 66 = .inl (.int, 31, .inl fun _ => 0) := (hfrM3 66 (by decide)).trans (sl_up_ne (by decide) (sl_up_ne (by decide) (f2_66)))
  refine slv_putF (fs' := [.int 0, .int 0, .int 0, .int 0, .int 0, .ref 54, .null, .null, .null, .null, .int 0, .int 0, .int 0, .ref 62, .ref 63, .ref 64, .ref 65, .ref 67]) eX7_init_58 gX7_38 rfl (f3_53) (Nat.le_of_ble_eq_true rfl) rfl rfl rfl ?_
  replace hw := nw_up (j := 53) (x := .inr (7, [.int 0, .int 0, .int 0, .int 0, .int 0, .ref 54, .null, .null, .null, .null, .int 0, .int 0, .int 0, .ref 62, .ref 63, .ref 64, .ref 65, .ref 67])) hw (by decide) rfl (by decide)
  refine slv_vret eX7_init_61 rfl ?_
  exact ⟨rfl, ⟨(sl_up_eq), (sl_up_ne (by decide) (f3_54)), (sl_up_ne (by decide) (f3_55)), (sl_up_ne (by decide) (f3_56)), (sl_up_ne (by decide) (f3_57)), (sl_up_ne (by decide) (f3_58)), (sl_up_ne (by decide) (f3_59)), (sl_up_ne (by decide) (f3_60)), (sl_up_ne (by decide) (f3_61)), (sl_up_ne (by decide) (f3_62)), (sl_up_ne (by decide) (f3_63)), (sl_up_ne (by decide) (f3_64)), (sl_up_ne (by decide) (f3_65)), (sl_up_ne (by decide) (f3_66)), (sl_up_ne (by decide) (f3_67))⟩, fun k hk => by repeat (first | rw [up_out (by omega)] | rw [hfrM3 k (by omega)] | rw [hfrM2 k (by omega)] | rw [hfrM1 k (by omega)]), hw⟩
