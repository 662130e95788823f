/-! what the constructor of SignLadders makes -/
set_option maxRecDepth 100000 in
theorem c_X11_init_0 {M : sl_M} (hw : nw 1 M) (h0 : M 0 = .inr (10, [.null, .int 0, .null, .null, .int 0, .null, .null, .null, .null, .null, .null, .null, .int 0, .int 0, .int 0, .int 0])) : sl_T YX11_init 3 67 2855 (fun r M' => r = none ∧ (M' 0 = .inr (10, [.ref 1, .int 0, .ref 2, .ref 10, .int 0, .ref 18, .ref 19, .ref 23, .ref 30, .ref 33, .ref 38, .ref 53, .int 0, .int 0, .int 0, .int 0]) ∧ M' 1 = .inl (.byte, 900, .inl fun _ => 0) ∧ M' 2 = .inr (2, [.int 0, .int 0, .int 0, .int 0, .ref 3, .ref 4, .ref 5, .ref 6, .ref 7, .ref 8, .ref 9]) ∧ M' 3 = .inl (.int, 6, .inl fun _ => 0) ∧ M' 4 = .inl (.int, 11, .inl fun _ => 0) ∧ M' 5 = .inl (.int, 12, .inl fun _ => 0) ∧ M' 6 = .inl (.int, 12, .inl fun _ => 0) ∧ M' 7 = .inl (.int, 12, .inl fun _ => 0) ∧ M' 8 = .inl (.int, 60, .inl fun _ => 0) ∧ M' 9 = .inl (.boolean, 12, .inl fun _ => 0) ∧ M' 10 = .inr (2, [.int 0, .int 0, .int 0, .int 0, .ref 11, .ref 12, .ref 13, .ref 14, .ref 15, .ref 16, .ref 17]) ∧ M' 11 = .inl (.int, 6, .inl fun _ => 0) ∧ M' 12 = .inl (.int, 11, .inl fun _ => 0) ∧ M' 13 = .inl (.int, 12, .inl fun _ => 0) ∧ M' 14 = .inl (.int, 12, .inl fun _ => 0) ∧ M' 15 = .inl (.int, 12, .inl fun _ => 0) ∧ M' 16 = .inl (.int, 60, .inl fun _ => 0) ∧ M' 17 = .inl (.boolean, 12, .inl fun _ => 0) ∧ M' 18 = .inr (3, [.int 0, .int 0, .null, .int 0, .int 0, .null, .int 0, .int 0, .int 0, .int 0, .int 0, .int 0, .int 0]) ∧ M' 19 = .inr (9, [.ref 20, .ref 21, .int 0, .ref 22]) ∧ M' 20 = .inl (.int, 6, .inl fun _ => 0) ∧ M' 21 = .inl (.int, 6, .inl fun _ => 0) ∧ M' 22 = .inl (.int, 144, .inl fun _ => 0) ∧ M' 23 = .inr (5, [.int 0, .ref 24, .int 0, .ref 25, .ref 26, .ref 27, .ref 28, .ref 29]) ∧ M' 24 = .inl (.int, 28, .inl fun _ => 0) ∧ M' 25 = .inl (.int, 28, .inl fun _ => 0) ∧ M' 26 = .inl (.int, 28, .inl fun _ => 0) ∧ M' 27 = .inl (.int, 28, .inl fun _ => 0) ∧ M' 28 = .inl (.int, 28, .inl fun _ => 0) ∧ M' 29 = .inl (.int, 28, .inl fun _ => 0) ∧ M' 30 = .inr (0, [.int 0, .ref 31, .ref 32]) ∧ M' 31 = .inl (.int, 10, .inl fun _ => 0) ∧ M' 32 = .inl (.int, 10, .inl fun _ => 0) ∧ M' 33 = .inr (1, [.int 0, .int 0, .ref 34, .ref 35, .ref 36, .ref 37, .null, .int 0, .int 0]) ∧ M' 34 = .inl (.int, 60, .inl fun _ => 0) ∧ M' 35 = .inl (.int, 60, .inl fun _ => 0) ∧ M' 36 = .inl (.boolean, 60, .inl fun _ => 0) ∧ M' 37 = .inl (.int, 60, .inl fun _ => 0) ∧ M' 38 = .inr (7, [.int 0, .int 0, .int 0, .int 0, .int 0, .ref 39, .null, .null, .null, .null, .int 0, .int 0, .int 0, .ref 47, .ref 48, .ref 49, .ref 50, .ref 52]) ∧ M' 39 = .inr (6, [.int 0, .ref 40, .ref 41, .ref 42, .ref 43, .ref 44, .ref 45, .ref 46]) ∧ M' 40 = .inl (.int, 60, .inl fun _ => 0) ∧ M' 41 = .inl (.int, 60, .inl fun _ => 0) ∧ M' 42 = .inl (.int, 60, .inl fun _ => 0) ∧ M' 43 = .inl (.int, 60, .inl fun _ => 0) ∧ M' 44 = .inl (.int, 60, .inl fun _ => 0) ∧ M' 45 = .inl (.boolean, 60, .inl fun _ => 0) ∧ M' 46 = .inl (.int, 60, .inl fun _ => 0) ∧ M' 47 = .inl (.int, 16, .inl fun _ => 0) ∧ M' 48 = .inl (.int, 16, .inl fun _ => 0) ∧ M' 49 = .inl (.int, 16, .inl fun _ => 0) ∧ M' 50 = .inr (4, [.int 0, .int 0, .int 0, .ref 51]) ∧ M' 51 = .inl (.int, 31, .inl fun _ => 0) ∧ M' 52 = .inr (8, [.int 0, .int 0]) ∧ M' 53 = .inr (7, [.int 0, .int 0, .int 0, .int 0, .int 0, .ref 54, .null, .null, .null, .null, .int 0, .int 0, .int 0, .ref 62, .ref 63, .ref 64, .ref 65, .ref 67]) ∧ M' 54 = .inr (6, [.int 0, .ref 55, .ref 56, .ref 57, .ref 58, .ref 59, .ref 60, .ref 61]) ∧ M' 55 = .inl (.int, 60, .inl fun _ => 0) ∧ M' 56 = .inl (.int, 60, .inl fun _ => 0) ∧ M' 57 = .inl (.int, 60, .inl fun _ => 0) ∧ M' 58 = .inl (.int, 60, .inl fun _ => 0) ∧ M' 59 = .inl (.int, 60, .inl fun _ => 0) ∧ M' 60 = .inl (.boolean, 60, .inl fun _ => 0) ∧ M' 61 = .inl (.int, 60, .inl fun _ => 0) ∧ M' 62 = .inl (.int, 16, .inl fun _ => 0) ∧ M' 63 = .inl (.int, 16, .inl fun _ => 0) ∧ M' 64 = .inl (.int, 16, .inl fun _ => 0) ∧ M' 65 = .inr (4, [.int 0, .int 0, .int 0, .ref 66]) ∧ M' 66 = .inl (.int, 31, .inl fun _ => 0) ∧ M' 67 = .inr (8, [.int 0, .int 0])) ∧ nw 68 M') [.ref 0] M := by
  refine sl_T.of_V (lv := [_]) (by decide) rfl (Nat.le_of_ble_eq_true rfl) ?_
  refine slv_aload_n eX11_init_0 rfl ?_
  refine slv_objInit eX11_init_1 oi_X11 oi_2 oi_3 (by decide) (Nat.le_of_ble_eq_true rfl) ?_
  refine slv_aload_n eX11_init_4 rfl ?_
  refine slv_sipush (v := nI 900) eX11_init_5 (by decide) ?_
  refine slv_nwa (a0 := (900, .inl fun _ => 0)) (kc' := 66) (ks' := 1955) eX11_init_8 rfl rfl ac_byte (fun _ => rfl) (by decide) (by decide) (by decide) hw (by decide) rfl rfl rfl rfl (fun hw => ?_)
  refine slv_putF (fs' := [.ref 1, .int 0, .null, .null, .int 0, .null, .null, .null, .null, .null, .null, .null, .int 0, .int 0, .int 0, .int 0]) eX11_init_10 gX11_9 rfl (sl_up_ne (by decide) (h0)) (Nat.le_of_ble_eq_true rfl) rfl rfl rfl ?_
  replace hw := nw_up (j := 0) (x := .inr (10, [.ref 1, .int 0, .null, .null, .int 0, .null, .null, .null, .null, .null, .null, .null, .int 0, .int 0, .int 0, .int 0])) hw (by decide) rfl (by decide)
  refine slv_aload_n eX11_init_13 rfl ?_
  refine slv_nwo (kc' := 65) (ks' := 1944) eX11_init_14 nX11_13 hw (by decide) rfl rfl rfl (by decide) rfl rfl (fun hw => ?_)
  refine slv_dup eX11_init_17 rfl ?_
  refine slv_nwc (As := []) (kc' := 58) (ks' := 1819) eX11_init_18 lX11_15 rfl rfl (c_X2_init_2 hw (sl_up_eq)) (by decide) (Nat.le_of_ble_eq_true rfl) rfl rfl hw rfl rfl ?_
  rintro _ M1 ⟨rfl, ⟨f1_2, f1_3, f1_4, f1_5, f1_6, f1_7, f1_8, f1_9⟩, hfr, hw⟩
  have f1_0 : M1 0 = .inr (10, [.ref 1, .int 0, .null, .null, .int 0, .null, .null, .null, .null, .null, .null, .null, .int 0, .int 0, .int 0, .int 0]) := (hfr 0 (by decide)).trans (sl_up_ne (by decide) (sl_up_eq))
  have f1_1 : M1 1 = .inl (.byte, 900, .inl fun _ => 0) := (hfr 1 (by decide)).trans (sl_up_ne (by decide) (sl_up_ne (by decide) (sl_up_eq)))
  clear hfr
  refine slv_putf (fs' := [.ref 1, .int 0, .ref 2, .null, .int 0, .null, .null, .null, .null, .null, .null, .null, .int 0, .int 0, .int 0, .int 0]) eX11_init_21 fX11_16 (f1_0) (Nat.le_of_ble_eq_true rfl) rfl rfl rfl ?_
  replace hw := nw_up (j := 0) (x := .inr (10, [.ref 1, .int 0, .ref 2, .null, .int 0, .null, .null, .null, .null, .null, .null, .null, .int 0, .int 0, .int 0, .int 0])) hw (by decide) rfl (by decide)
  refine slv_aload_n eX11_init_24 rfl ?_
  refine slv_nwo (kc' := 57) (ks' := 1808) eX11_init_25 nX11_13 hw (by decide) rfl rfl rfl (by decide) rfl rfl (fun hw => ?_)
  refine slv_dup eX11_init_28 rfl ?_
  refine slv_nwc (As := []) (kc' := 50) (ks' := 1683) eX11_init_29 lX11_15 rfl rfl (c_X2_init_10 hw (sl_up_eq)) (by decide) (Nat.le_of_ble_eq_true rfl) rfl rfl hw rfl rfl ?_
  rintro _ M2 ⟨rfl, ⟨f2_10, f2_11, f2_12, f2_13, f2_14, f2_15, f2_16, f2_17⟩, hfr, hw⟩
  have f2_0 : M2 0 = .inr (10, [.ref 1, .int 0, .ref 2, .null, .int 0, .null, .null, .null, .null, .null, .null, .null, .int 0, .int 0, .int 0, .int 0]) := (hfr 0 (by decide)).trans (sl_up_ne (by decide) (sl_up_eq))
  have f2_1 : M2 1 = .inl (.byte, 900, .inl fun _ => 0) := (hfr 1 (by decide)).trans (sl_up_ne (by decide) (sl_up_ne (by decide) (f1_1)))
  have f2_2 : M2 2 = .inr (2, [.int 0, .int 0, .int 0, .int 0, .ref 3, .ref 4, .ref 5, .ref 6, .ref 7, .ref 8, .ref 9]) := (hfr 2 (by decide)).trans (sl_up_ne (by decide) (sl_up_ne (by decide) (f1_2)))
  have f2_3 : M2 3 = .inl (.int, 6, .inl fun _ => 0) := (hfr 3 (by decide)).trans (sl_up_ne (by decide) (sl_up_ne (by decide) (f1_3)))
  have f2_4 : M2 4 = .inl (.int, 11, .inl fun _ => 0) := (hfr 4 (by decide)).trans (sl_up_ne (by decide) (sl_up_ne (by decide) (f1_4)))
  have f2_5 : M2 5 = .inl (.int, 12, .inl fun _ => 0) := (hfr 5 (by decide)).trans (sl_up_ne (by decide) (sl_up_ne (by decide) (f1_5)))
  have f2_6 : M2 6 = .inl (.int, 12, .inl fun _ => 0) := (hfr 6 (by decide)).trans (sl_up_ne (by decide) (sl_up_ne (by decide) (f1_6)))
  have f2_7 : M2 7 = .inl (.int, 12, .inl fun _ => 0) := (hfr 7 (by decide)).trans (sl_up_ne (by decide) (sl_up_ne (by decide) (f1_7)))
  have f2_8 : M2 8 = .inl (.int, 60, .inl fun _ => 0) := (hfr 8 (by decide)).trans (sl_up_ne (by decide) (sl_up_ne (by decide) (f1_8)))
  have f2_9 : M2 9 = .inl (.boolean, 12, .inl fun _ => 0) := (hfr 9 (by decide)).trans (sl_up_ne (by decide) (sl_up_ne (by decide) (f1_9)))
  clear hfr
  refine slv_putf (fs' := [.ref 1, .int 0, .ref 2, .ref 10, .int 0, .null, .null, .null, .null, .null, .null, .null, .int 0, .int 0, .int 0, .int 0]) eX11_init_32 fX11_20 (f2_0) (Nat.le_of_ble_eq_true rfl) rfl rfl rfl ?_
  replace hw := nw_up (j := 0) (x := .inr (10, [.ref 1, .int 0, .ref 2, .ref 10, .int 0, .null, .null, .null, .null, .null, .null, .null, .int 0, .int 0, .int 0, .int 0])) hw (by decide) rfl (by decide)
  refine slv_aload_n eX11_init_35 rfl ?_
  refine slv_nwo (kc' := 49) (ks' := 1670) eX11_init_36 nX11_23 hw (by decide) rfl rfl rfl (by decide) rfl rfl (fun hw => ?_)
  refine slv_dup eX11_init_39 rfl ?_
  refine slv_nwc (As := []) (kc' := 49) (ks' := 1670) eX11_init_40 lX11_25 rfl rfl (c_X3_init_18 hw (sl_up_eq)) (by decide) (Nat.le_of_ble_eq_true rfl) rfl rfl hw rfl rfl ?_
  rintro _ M3 ⟨rfl, f3_18, hfr, hw⟩
  have f3_0 : M3 0 = .inr (10, [.ref 1, .int 0, .ref 2, .ref 10, .int 0, .null, .null, .null, .null, .null, .null, .null, .int 0, .int 0, .int 0, .int 0]) := (hfr 0 (by decide)).trans (sl_up_ne (by decide) (sl_up_eq))
  have f3_1 : M3 1 = .inl (.byte, 900, .inl fun _ => 0) := (hfr 1 (by decide)).trans (sl_up_ne (by decide) (sl_up_ne (by decide) (f2_1)))
  have f3_2 : M3 2 = .inr (2, [.int 0, .int 0, .int 0, .int 0, .ref 3, .ref 4, .ref 5, .ref 6, .ref 7, .ref 8, .ref 9]) := (hfr 2 (by decide)).trans (sl_up_ne (by decide) (sl_up_ne (by decide) (f2_2)))
  have f3_3 : M3 3 = .inl (.int, 6, .inl fun _ => 0) := (hfr 3 (by decide)).trans (sl_up_ne (by decide) (sl_up_ne (by decide) (f2_3)))
  have f3_4 : M3 4 = .inl (.int, 11, .inl fun _ => 0) := (hfr 4 (by decide)).trans (sl_up_ne (by decide) (sl_up_ne (by decide) (f2_4)))
  have f3_5 : M3 5 = .inl (.int, 12, .inl fun _ => 0) := (hfr 5 (by decide)).trans (sl_up_ne (by decide) (sl_up_ne (by decide) (f2_5)))
  have f3_6 : M3 6 = .inl (.int, 12, .inl fun _ => 0) := (hfr 6 (by decide)).trans (sl_up_ne (by decide) (sl_up_ne (by decide) (f2_6)))
  have f3_7 : M3 7 = .inl (.int, 12, .inl fun _ => 0) := (hfr 7 (by decide)).trans (sl_up_ne (by decide) (sl_up_ne (by decide) (f2_7)))
  have f3_8 : M3 8 = .inl (.int, 60, .inl fun _ => 0) := (hfr 8 (by decide)).trans (sl_up_ne (by decide) (sl_up_ne (by decide) (f2_8)))
  have f3_9 : M3 9 = .inl (.boolean, 12, .inl fun _ => 0) := (hfr 9 (by decide)).trans (sl_up_ne (by decide) (sl_up_ne (by decide) (f2_9)))
  have f3_10 : M3 10 = .inr (2, [.int 0, .int 0, .int 0, .int 0, .ref 11, .ref 12, .ref 13, .ref 14, .ref 15, .ref 16, .ref 17]) := (hfr 10 (by decide)).trans (sl_up_ne (by decide) (sl_up_ne (by decide) (f2_10)))
  have f3_11 : M3 11 = .inl (.int, 6, .inl fun _ => 0) := (hfr 11 (by decide)).trans (sl_up_ne (by decide) (sl_up_ne (by decide) (f2_11)))
  have f3_12 : M3 12 = .inl (.int, 11, .inl fun _ => 0) := (hfr 12 (by decide)).trans (sl_up_ne (by decide) (sl_up_ne (by decide) (f2_12)))
  have f3_13 : M3 13 = .inl (.int, 12, .inl fun _ => 0) := (hfr 13 (by decide)).trans (sl_up_ne (by decide) (sl_up_ne (by decide) (f2_13)))
  have f3_14 : M3 14 = .inl (.int, 12, .inl fun _ => 0) := (hfr 14 (by decide)).trans (sl_up_ne (by decide) (sl_up_ne (by decide) (f2_14)))
  have f3_15 : M3 15 = .inl (.int, 12, .inl fun _ => 0) := (hfr 15 (by decide)).trans (sl_up_ne (by decide) (sl_up_ne (by decide) (f2_15)))
  have f3_16 : M3 16 = .inl (.int, 60, .inl fun _ => 0) := (hfr 16 (by decide)).trans (sl_up_ne (by decide) (sl_up_ne (by decide) (f2_16)))
  have f3_17 : M3 17 = .inl (.boolean, 12, .inl fun _ => 0) := (hfr 17 (by decide)).trans (sl_up_ne (by decide) (sl_up_ne (by decide) (f2_17)))
  clear hfr
  refine slv_putF (fs' := [.ref 1, .int 0, .ref 2, .ref 10, .int 0, .ref 18, .null, .null, .null, .null, .null, .null, .int 0, .int 0, .int 0, .int 0]) eX11_init_43 gX11_26 rfl (f3_0) (Nat.le_of_ble_eq_true rfl) rfl rfl rfl ?_
  replace hw := nw_up (j := 0) (x := .inr (10, [.ref 1, .int 0, .ref 2, .ref 10, .int 0, .ref 18, .null, .null, .null, .null, .null, .null, .int 0, .int 0, .int 0, .int 0])) hw (by decide) rfl (by decide)
  refine slv_aload_n eX11_init_46 rfl ?_
  refine slv_nwo (kc' := 48) (ks' := 1666) eX11_init_47 nX11_30 hw (by decide) rfl rfl rfl (by decide) rfl rfl (fun hw => ?_)
  refine slv_dup eX11_init_50 rfl ?_
  refine slv_nwc (As := []) (kc' := 45) (ks' := 1510) eX11_init_51 lX11_32 rfl rfl (c_X10_init_19 hw (sl_up_eq)) (by decide) (Nat.le_of_ble_eq_true rfl) rfl rfl hw rfl rfl ?_
  rintro _ M4 ⟨rfl, ⟨f4_19, f4_20, f4_21, f4_22⟩, hfr, hw⟩
  have f4_0 : M4 0 = .inr (10, [.ref 1, .int 0, .ref 2, .ref 10, .int 0, .ref 18, .null, .null, .null, .null, .null, .null, .int 0, .int 0, .int 0, .int 0]) := (hfr 0 (by decide)).trans (sl_up_ne (by decide) (sl_up_eq))
  have f4_1 : M4 1 = .inl (.byte, 900, .inl fun _ => 0) := (hfr 1 (by decide)).trans (sl_up_ne (by decide) (sl_up_ne (by decide) (f3_1)))
  have f4_2 : M4 2 = .inr (2, [.int 0, .int 0, .int 0, .int 0, .ref 3, .ref 4, .ref 5, .ref 6, .ref 7, .ref 8, .ref 9]) := (hfr 2 (by decide)).trans (sl_up_ne (by decide) (sl_up_ne (by decide) (f3_2)))
  have f4_3 : M4 3 = .inl (.int, 6, .inl fun _ => 0) := (hfr 3 (by decide)).trans (sl_up_ne (by decide) (sl_up_ne (by decide) (f3_3)))
  have f4_4 : M4 4 = .inl (.int, 11, .inl fun _ => 0) := (hfr 4 (by decide)).trans (sl_up_ne (by decide) (sl_up_ne (by decide) (f3_4)))
  have f4_5 : M4 5 = .inl (.int, 12, .inl fun _ => 0) := (hfr 5 (by decide)).trans (sl_up_ne (by decide) (sl_up_ne (by decide) (f3_5)))
  have f4_6 : M4 6 = .inl (.int, 12, .inl fun _ => 0) := (hfr 6 (by decide)).trans (sl_up_ne (by decide) (sl_up_ne (by decide) (f3_6)))
  have f4_7 : M4 7 = .inl (.int, 12, .inl fun _ => 0) := (hfr 7 (by decide)).trans (sl_up_ne (by decide) (sl_up_ne (by decide) (f3_7)))
  have f4_8 : M4 8 = .inl (.int, 60, .inl fun _ => 0) := (hfr 8 (by decide)).trans (sl_up_ne (by decide) (sl_up_ne (by decide) (f3_8)))
  have f4_9 : M4 9 = .inl (.boolean, 12, .inl fun _ => 0) := (hfr 9 (by decide)).trans (sl_up_ne (by decide) (sl_up_ne (by decide) (f3_9)))
  have f4_10 : M4 10 = .inr (2, [.int 0, .int 0, .int 0, .int 0, .ref 11, .ref 12, .ref 13, .ref 14, .ref 15, .ref 16, .ref 17]) := (hfr 10 (by decide)).trans (sl_up_ne (by decide) (sl_up_ne (by decide) (f3_10)))
  have f4_11 : M4 11 = .inl (.int, 6, .inl fun _ => 0) := (hfr 11 (by decide)).trans (sl_up_ne (by decide) (sl_up_ne (by decide) (f3_11)))
  have f4_12 : M4 12 = .inl (.int, 11, .inl fun _ => 0) := (hfr 12 (by decide)).trans (sl_up_ne (by decide) (sl_up_ne (by decide) (f3_12)))
  have f4_13 : M4 13 = .inl (.int, 12, .inl fun _ => 0) := (hfr 13 (by decide)).trans (sl_up_ne (by decide) (sl_up_ne (by decide) (f3_13)))
  have f4_14 : M4 14 = .inl (.int, 12, .inl fun _ => 0) := (hfr 14 (by decide)).trans (sl_up_ne (by decide) (sl_up_ne (by decide) (f3_14)))
  have f4_15 : M4 15 = .inl (.int, 12, .inl fun _ => 0) := (hfr 15 (by decide)).trans (sl_up_ne (by decide) (sl_up_ne (by decide) (f3_15)))
  have f4_16 : M4 16 = .inl (.int, 60, .inl fun _ => 0) := (hfr 16 (by decide)).trans (sl_up_ne (by decide) (sl_up_ne (by decide) (f3_16)))
  have f4_17 : M4 17 = .inl (.boolean, 12, .inl fun _ => 0) := (hfr 17 (by decide)).trans (sl_up_ne (by decide) (sl_up_ne (by decide) (f3_17)))
  have f4_18 : M4 18 = .inr (3, [.int 0, .int 0, .null, .int 0, .int 0, .null, .int 0, .int 0, .int 0, .int 0, .int 0, .int 0, .int 0]) := (hfr 18 (by decide)).trans (sl_up_ne (by decide) (sl_up_ne (by decide) (f3_18)))
  clear hfr
  refine slv_putF (fs' := [.ref 1, .int 0, .ref 2, .ref 10, .int 0, .ref 18, .ref 19, .null, .null, .null, .null, .null, .int 0, .int 0, .int 0, .int 0]) eX11_init_54 gX11_33 rfl (f4_0) (Nat.le_of_ble_eq_true rfl) rfl rfl rfl ?_
  replace hw := nw_up (j := 0) (x := .inr (10, [.ref 1, .int 0, .ref 2, .ref 10, .int 0, .ref 18, .ref 19, .null, .null, .null, .null, .null, .int 0, .int 0, .int 0, .int 0])) hw (by decide) rfl (by decide)
  refine slv_aload_n eX11_init_57 rfl ?_
  refine slv_nwo (kc' := 44) (ks' := 1502) eX11_init_58 nX11_37 hw (by decide) rfl rfl rfl (by decide) rfl rfl (fun hw => ?_)
  refine slv_dup eX11_init_61 rfl ?_
  refine slv_nwc (As := []) (kc' := 38) (ks' := 1334) eX11_init_62 lX11_39 rfl rfl (c_X5_init_23 hw (sl_up_eq)) (by decide) (Nat.le_of_ble_eq_true rfl) rfl rfl hw rfl rfl ?_
  rintro _ M5 ⟨rfl, ⟨f5_23, f5_24, f5_25, f5_26, f5_27, f5_28, f5_29⟩, hfr, hw⟩
  have f5_0 : M5 0 = .inr (10, [.ref 1, .int 0, .ref 2, .ref 10, .int 0, .ref 18, .ref 19, .null, .null, .null, .null, .null, .int 0, .int 0, .int 0, .int 0]) := (hfr 0 (by decide)).trans (sl_up_ne (by decide) (sl_up_eq))
  have f5_1 : M5 1 = .inl (.byte, 900, .inl fun _ => 0) := (hfr 1 (by decide)).trans (sl_up_ne (by decide) (sl_up_ne (by decide) (f4_1)))
  have f5_2 : M5 2 = .inr (2, [.int 0, .int 0, .int 0, .int 0, .ref 3, .ref 4, .ref 5, .ref 6, .ref 7, .ref 8, .ref 9]) := (hfr 2 (by decide)).trans (sl_up_ne (by decide) (sl_up_ne (by decide) (f4_2)))
  have f5_3 : M5 3 = .inl (.int, 6, .inl fun _ => 0) := (hfr 3 (by decide)).trans (sl_up_ne (by decide) (sl_up_ne (by decide) (f4_3)))
  have f5_4 : M5 4 = .inl (.int, 11, .inl fun _ => 0) := (hfr 4 (by decide)).trans (sl_up_ne (by decide) (sl_up_ne (by decide) (f4_4)))
  have f5_5 : M5 5 = .inl (.int, 12, .inl fun _ => 0) := (hfr 5 (by decide)).trans (sl_up_ne (by decide) (sl_up_ne (by decide) (f4_5)))
  have f5_6 : M5 6 = .inl (.int, 12, .inl fun _ => 0) := (hfr 6 (by decide)).trans (sl_up_ne (by decide) (sl_up_ne (by decide) (f4_6)))
  have f5_7 : M5 7 = .inl (.int, 12, .inl fun _ => 0) := (hfr 7 (by decide)).trans (sl_up_ne (by decide) (sl_up_ne (by decide) (f4_7)))
  have f5_8 : M5 8 = .inl (.int, 60, .inl fun _ => 0) := (hfr 8 (by decide)).trans (sl_up_ne (by decide) (sl_up_ne (by decide) (f4_8)))
  have f5_9 : M5 9 = .inl (.boolean, 12, .inl fun _ => 0) := (hfr 9 (by decide)).trans (sl_up_ne (by decide) (sl_up_ne (by decide) (f4_9)))
  have f5_10 : M5 10 = .inr (2, [.int 0, .int 0, .int 0, .int 0, .ref 11, .ref 12, .ref 13, .ref 14, .ref 15, .ref 16, .ref 17]) := (hfr 10 (by decide)).trans (sl_up_ne (by decide) (sl_up_ne (by decide) (f4_10)))
  have f5_11 : M5 11 = .inl (.int, 6, .inl fun _ => 0) := (hfr 11 (by decide)).trans (sl_up_ne (by decide) (sl_up_ne (by decide) (f4_11)))
  have f5_12 : M5 12 = .inl (.int, 11, .inl fun _ => 0) := (hfr 12 (by decide)).trans (sl_up_ne (by decide) (sl_up_ne (by decide) (f4_12)))
  have f5_13 : M5 13 = .inl (.int, 12, .inl fun _ => 0) := (hfr 13 (by decide)).trans (sl_up_ne (by decide) (sl_up_ne (by decide) (f4_13)))
  have f5_14 : M5 14 = .inl (.int, 12, .inl fun _ => 0) := (hfr 14 (by decide)).trans (sl_up_ne (by decide) (sl_up_ne (by decide) (f4_14)))
  have f5_15 : M5 15 = .inl (.int, 12, .inl fun _ => 0) := (hfr 15 (by decide)).trans (sl_up_ne (by decide) (sl_up_ne (by decide) (f4_15)))
  have f5_16 : M5 16 = .inl (.int, 60, .inl fun _ => 0) := (hfr 16 (by decide)).trans (sl_up_ne (by decide) (sl_up_ne (by decide) (f4_16)))
  have f5_17 : M5 17 = .inl (.boolean, 12, .inl fun _ => 0) := (hfr 17 (by decide)).trans (sl_up_ne (by decide) (sl_up_ne (by decide) (f4_17)))
  have f5_18 : M5 18 = .inr (3, [.int 0, .int 0, .null, .int 0, .int 0, .null, .int 0, .int 0, .int 0, .int 0, .int 0, .int 0, .int 0]) := (hfr 18 (by decide)).trans (sl_up_ne (by decide) (sl_up_ne (by decide) (f4_18)))
  have f5_19 : M5 19 = .inr (9, [.ref 20, .ref 21, .int 0, .ref 22]) := (hfr 19 (by decide)).trans (sl_up_ne (by decide) (sl_up_ne (by decide) (f4_19)))
  have f5_20 : M5 20 = .inl (.int, 6, .inl fun _ => 0) := (hfr 20 (by decide)).trans (sl_up_ne (by decide) (sl_up_ne (by decide) (f4_20)))
  have f5_21 : M5 21 = .inl (.int, 6, .inl fun _ => 0) := (hfr 21 (by decide)).trans (sl_up_ne (by decide) (sl_up_ne (by decide) (f4_21)))
  have f5_22 : M5 22 = .inl (.int, 144, .inl fun _ => 0) := (hfr 22 (by decide)).trans (sl_up_ne (by decide) (sl_up_ne (by decide) (f4_22)))
  clear hfr
  refine slv_putF (fs' := [.ref 1, .int 0, .ref 2, .ref 10, .int 0, .ref 18, .ref 19, .ref 23, .null, .null, .null, .null, .int 0, .int 0, .int 0, .int 0]) eX11_init_65 gX11_40 rfl (f5_0) (Nat.le_of_ble_eq_true rfl) rfl rfl rfl ?_
  replace hw := nw_up (j := 0) (x := .inr (10, [.ref 1, .int 0, .ref 2, .ref 10, .int 0, .ref 18, .ref 19, .ref 23, .null, .null, .null, .null, .int 0, .int 0, .int 0, .int 0])) hw (by decide) rfl (by decide)
  refine slv_aload_n eX11_init_68 rfl ?_
  refine slv_nwo (kc' := 37) (ks' := 1331) eX11_init_69 nX11_44 hw (by decide) rfl rfl rfl (by decide) rfl rfl (fun hw => ?_)
  refine slv_dup eX11_init_72 rfl ?_
  refine slv_nwc (As := []) (kc' := 35) (ks' := 1311) eX11_init_73 lX11_46 rfl rfl (c_X0_init_30 hw (sl_up_eq)) (by decide) (Nat.le_of_ble_eq_true rfl) rfl rfl hw rfl rfl ?_
  rintro _ M6 ⟨rfl, ⟨f6_30, f6_31, f6_32⟩, hfr, hw⟩
  have f6_0 : M6 0 = .inr (10, [.ref 1, .int 0, .ref 2, .ref 10, .int 0, .ref 18, .ref 19, .ref 23, .null, .null, .null, .null, .int 0, .int 0, .int 0, .int 0]) := (hfr 0 (by decide)).trans (sl_up_ne (by decide) (sl_up_eq))
  have f6_1 : M6 1 = .inl (.byte, 900, .inl fun _ => 0) := (hfr 1 (by decide)).trans (sl_up_ne (by decide) (sl_up_ne (by decide) (f5_1)))
  have f6_2 : M6 2 = .inr (2, [.int 0, .int 0, .int 0, .int 0, .ref 3, .ref 4, .ref 5, .ref 6, .ref 7, .ref 8, .ref 9]) := (hfr 2 (by decide)).trans (sl_up_ne (by decide) (sl_up_ne (by decide) (f5_2)))
  have f6_3 : M6 3 = .inl (.int, 6, .inl fun _ => 0) := (hfr 3 (by decide)).trans (sl_up_ne (by decide) (sl_up_ne (by decide) (f5_3)))
  have f6_4 : M6 4 = .inl (.int, 11, .inl fun _ => 0) := (hfr 4 (by decide)).trans (sl_up_ne (by decide) (sl_up_ne (by decide) (f5_4)))
  have f6_5 : M6 5 = .inl (.int, 12, .inl fun _ => 0) := (hfr 5 (by decide)).trans (sl_up_ne (by decide) (sl_up_ne (by decide) (f5_5)))
  have f6_6 : M6 6 = .inl (.int, 12, .inl fun _ => 0) := (hfr 6 (by decide)).trans (sl_up_ne (by decide) (sl_up_ne (by decide) (f5_6)))
  have f6_7 : M6 7 = .inl (.int, 12, .inl fun _ => 0) := (hfr 7 (by decide)).trans (sl_up_ne (by decide) (sl_up_ne (by decide) (f5_7)))
  have f6_8 : M6 8 = .inl (.int, 60, .inl fun _ => 0) := (hfr 8 (by decide)).trans (sl_up_ne (by decide) (sl_up_ne (by decide) (f5_8)))
  have f6_9 : M6 9 = .inl (.boolean, 12, .inl fun _ => 0) := (hfr 9 (by decide)).trans (sl_up_ne (by decide) (sl_up_ne (by decide) (f5_9)))
  have f6_10 : M6 10 = .inr (2, [.int 0, .int 0, .int 0, .int 0, .ref 11, .ref 12, .ref 13, .ref 14, .ref 15, .ref 16, .ref 17]) := (hfr 10 (by decide)).trans (sl_up_ne (by decide) (sl_up_ne (by decide) (f5_10)))
  have f6_11 : M6 11 = .inl (.int, 6, .inl fun _ => 0) := (hfr 11 (by decide)).trans (sl_up_ne (by decide) (sl_up_ne (by decide) (f5_11)))
  have f6_12 : M6 12 = .inl (.int, 11, .inl fun _ => 0) := (hfr 12 (by decide)).trans (sl_up_ne (by decide) (sl_up_ne (by decide) (f5_12)))
  have f6_13 : M6 13 = .inl (.int, 12, .inl fun _ => 0) := (hfr 13 (by decide)).trans (sl_up_ne (by decide) (sl_up_ne (by decide) (f5_13)))
  have f6_14 : M6 14 = .inl (.int, 12, .inl fun _ => 0) := (hfr 14 (by decide)).trans (sl_up_ne (by decide) (sl_up_ne (by decide) (f5_14)))
  have f6_15 : M6 15 = .inl (.int, 12, .inl fun _ => 0) := (hfr 15 (by decide)).trans (sl_up_ne (by decide) (sl_up_ne (by decide) (f5_15)))
  have f6_16 : M6 16 = .inl (.int, 60, .inl fun _ => 0) := (hfr 16 (by decide)).trans (sl_up_ne (by decide) (sl_up_ne (by decide) (f5_16)))
  have f6_17 : M6 17 = .inl (.boolean, 12, .inl fun _ => 0) := (hfr 17 (by decide)).trans (sl_up_ne (by decide) (sl_up_ne (by decide) (f5_17)))
  have f6_18 : M6 18 = .inr (3, [.int 0, .int 0, .null, .int 0, .int 0, .null, .int 0, .int 0, .int 0, .int 0, .int 0, .int 0, .int 0]) := (hfr 18 (by decide)).trans (sl_up_ne (by decide) (sl_up_ne (by decide) (f5_18)))
  have f6_19 : M6 19 = .inr (9, [.ref 20, .ref 21, .int 0, .ref 22]) := (hfr 19 (by decide)).trans (sl_up_ne (by decide) (sl_up_ne (by decide) (f5_19)))
  have f6_20 : M6 20 = .inl (.int, 6, .inl fun _ => 0) := (hfr 20 (by decide)).trans (sl_up_ne (by decide) (sl_up_ne (by decide) (f5_20)))
  have f6_21 : M6 21 = .inl (.int, 6, .inl fun _ => 0) := (hfr 21 (by decide)).trans (sl_up_ne (by decide) (sl_up_ne (by decide) (f5_21)))
  have f6_22 : M6 22 = .inl (.int, 144, .inl fun _ => 0) := (hfr 22 (by decide)).trans (sl_up_ne (by decide) (sl_up_ne (by decide) (f5_22)))
  have f6_23 : M6 23 = .inr (5, [.int 0, .ref 24, .int 0, .ref 25, .ref 26, .ref 27, .ref 28, .ref 29]) := (hfr 23 (by decide)).trans (sl_up_ne (by decide) (sl_up_ne (by decide) (f5_23)))
  have f6_24 : M6 24 = .inl (.int, 28, .inl fun _ => 0) := (hfr 24 (by decide)).trans (sl_up_ne (by decide) (sl_up_ne (by decide) (f5_24)))
  have f6_25 : M6 25 = .inl (.int, 28, .inl fun _ => 0) := (hfr 25 (by decide)).trans (sl_up_ne (by decide) (sl_up_ne (by decide) (f5_25)))
  have f6_26 : M6 26 = .inl (.int, 28, .inl fun _ => 0) := (hfr 26 (by decide)).trans (sl_up_ne (by decide) (sl_up_ne (by decide) (f5_26)))
  have f6_27 : M6 27 = .inl (.int, 28, .inl fun _ => 0) := (hfr 27 (by decide)).trans (sl_up_ne (by decide) (sl_up_ne (by decide) (f5_27)))
  have f6_28 : M6 28 = .inl (.int, 28, .inl fun _ => 0) := (hfr 28 (by decide)).trans (sl_up_ne (by decide) (sl_up_ne (by decide) (f5_28)))
  have f6_29 : M6 29 = .inl (.int, 28, .inl fun _ => 0) := (hfr 29 (by decide)).trans (sl_up_ne (by decide) (sl_up_ne (by decide) (f5_29)))
  clear hfr
  refine slv_putF (fs' := [.ref 1, .int 0, .ref 2, .ref 10, .int 0, .ref 18, .ref 19, .ref 23, .ref 30, .null, .null, .null, .int 0, .int 0, .int 0, .int 0]) eX11_init_76 gX11_47 rfl (f6_0) (Nat.le_of_ble_eq_true rfl) rfl rfl rfl ?_
  replace hw := nw_up (j := 0) (x := .inr (10, [.ref 1, .int 0, .ref 2, .ref 10, .int 0, .ref 18, .ref 19, .ref 23, .ref 30, .null, .null, .null, .int 0, .int 0, .int 0, .int 0])) hw (by decide) rfl (by decide)
  refine slv_aload_n eX11_init_79 rfl ?_
  refine slv_nwo (kc' := 34) (ks' := 1302) eX11_init_80 nX11_51 hw (by decide) rfl rfl rfl (by decide) rfl rfl (fun hw => ?_)
  refine slv_dup eX11_init_83 rfl ?_
  refine slv_nwc (As := []) (kc' := 30) (ks' := 1062) eX11_init_84 lX11_53 rfl rfl (c_X1_init_33 hw (sl_up_eq)) (by decide) (Nat.le_of_ble_eq_true rfl) rfl rfl hw rfl rfl ?_
  rintro _ M7 ⟨rfl, ⟨f7_33, f7_34, f7_35, f7_36, f7_37⟩, hfr, hw⟩
  have f7_0 : M7 0 = .inr (10, [.ref 1, .int 0, .ref 2, .ref 10, .int 0, .ref 18, .ref 19, .ref 23, .ref 30, .null, .null, .null, .int 0, .int 0, .int 0, .int 0]) := (hfr 0 (by decide)).trans (sl_up_ne (by decide) (sl_up_eq))
  have f7_1 : M7 1 = .inl (.byte, 900, .inl fun _ => 0) := (hfr 1 (by decide)).trans (sl_up_ne (by decide) (sl_up_ne (by decide) (f6_1)))
  have f7_2 : M7 2 = .inr (2, [.int 0, .int 0, .int 0, .int 0, .ref 3, .ref 4, .ref 5, .ref 6, .ref 7, .ref 8, .ref 9]) := (hfr 2 (by decide)).trans (sl_up_ne (by decide) (sl_up_ne (by decide) (f6_2)))
  have f7_3 : M7 3 = .inl (.int, 6, .inl fun _ => 0) := (hfr 3 (by decide)).trans (sl_up_ne (by decide) (sl_up_ne (by decide) (f6_3)))
  have f7_4 : M7 4 = .inl (.int, 11, .inl fun _ => 0) := (hfr 4 (by decide)).trans (sl_up_ne (by decide) (sl_up_ne (by decide) (f6_4)))
  have f7_5 : M7 5 = .inl (.int, 12, .inl fun _ => 0) := (hfr 5 (by decide)).trans (sl_up_ne (by decide) (sl_up_ne (by decide) (f6_5)))
  have f7_6 : M7 6 = .inl (.int, 12, .inl fun _ => 0) := (hfr 6 (by decide)).trans (sl_up_ne (by decide) (sl_up_ne (by decide) (f6_6)))
  have f7_7 : M7 7 = .inl (.int, 12, .inl fun _ => 0) := (hfr 7 (by decide)).trans (sl_up_ne (by decide) (sl_up_ne (by decide) (f6_7)))
  have f7_8 : M7 8 = .inl (.int, 60, .inl fun _ => 0) := (hfr 8 (by decide)).trans (sl_up_ne (by decide) (sl_up_ne (by decide) (f6_8)))
  have f7_9 : M7 9 = .inl (.boolean, 12, .inl fun _ => 0) := (hfr 9 (by decide)).trans (sl_up_ne (by decide) (sl_up_ne (by decide) (f6_9)))
  have f7_10 : M7 10 = .inr (2, [.int 0, .int 0, .int 0, .int 0, .ref 11, .ref 12, .ref 13, .ref 14, .ref 15, .ref 16, .ref 17]) := (hfr 10 (by decide)).trans (sl_up_ne (by decide) (sl_up_ne (by decide) (f6_10)))
  have f7_11 : M7 11 = .inl (.int, 6, .inl fun _ => 0) := (hfr 11 (by decide)).trans (sl_up_ne (by decide) (sl_up_ne (by decide) (f6_11)))
  have f7_12 : M7 12 = .inl (.int, 11, .inl fun _ => 0) := (hfr 12 (by decide)).trans (sl_up_ne (by decide) (sl_up_ne (by decide) (f6_12)))
  have f7_13 : M7 13 = .inl (.int, 12, .inl fun _ => 0) := (hfr 13 (by decide)).trans (sl_up_ne (by decide) (sl_up_ne (by decide) (f6_13)))
  have f7_14 : M7 14 = .inl (.int, 12, .inl fun _ => 0) := (hfr 14 (by decide)).trans (sl_up_ne (by decide) (sl_up_ne (by decide) (f6_14)))
  have f7_15 : M7 15 = .inl (.int, 12, .inl fun _ => 0) := (hfr 15 (by decide)).trans (sl_up_ne (by decide) (sl_up_ne (by decide) (f6_15)))
  have f7_16 : M7 16 = .inl (.int, 60, .inl fun _ => 0) := (hfr 16 (by decide)).trans (sl_up_ne (by decide) (sl_up_ne (by decide) (f6_16)))
  have f7_17 : M7 17 = .inl (.boolean, 12, .inl fun _ => 0) := (hfr 17 (by decide)).trans (sl_up_ne (by decide) (sl_up_ne (by decide) (f6_17)))
  have f7_18 : M7 18 = .inr (3, [.int 0, .int 0, .null, .int 0, .int 0, .null, .int 0, .int 0, .int 0, .int 0, .int 0, .int 0, .int 0]) := (hfr 18 (by decide)).trans (sl_up_ne (by decide) (sl_up_ne (by decide) (f6_18)))
  have f7_19 : M7 19 = .inr (9, [.ref 20, .ref 21, .int 0, .ref 22]) := (hfr 19 (by decide)).trans (sl_up_ne (by decide) (sl_up_ne (by decide) (f6_19)))
  have f7_20 : M7 20 = .inl (.int, 6, .inl fun _ => 0) := (hfr 20 (by decide)).trans (sl_up_ne (by decide) (sl_up_ne (by decide) (f6_20)))
  have f7_21 : M7 21 = .inl (.int, 6, .inl fun _ => 0) := (hfr 21 (by decide)).trans (sl_up_ne (by decide) (sl_up_ne (by decide) (f6_21)))
  have f7_22 : M7 22 = .inl (.int, 144, .inl fun _ => 0) := (hfr 22 (by decide)).trans (sl_up_ne (by decide) (sl_up_ne (by decide) (f6_22)))
  have f7_23 : M7 23 = .inr (5, [.int 0, .ref 24, .int 0, .ref 25, .ref 26, .ref 27, .ref 28, .ref 29]) := (hfr 23 (by decide)).trans (sl_up_ne (by decide) (sl_up_ne (by decide) (f6_23)))
  have f7_24 : M7 24 = .inl (.int, 28, .inl fun _ => 0) := (hfr 24 (by decide)).trans (sl_up_ne (by decide) (sl_up_ne (by decide) (f6_24)))
  have f7_25 : M7 25 = .inl (.int, 28, .inl fun _ => 0) := (hfr 25 (by decide)).trans (sl_up_ne (by decide) (sl_up_ne (by decide) (f6_25)))
  have f7_26 : M7 26 = .inl (.int, 28, .inl fun _ => 0) := (hfr 26 (by decide)).trans (sl_up_ne (by decide) (sl_up_ne (by decide) (f6_26)))
  have f7_27 : M7 27 = .inl (.int, 28, .inl fun _ => 0) := (hfr 27 (by decide)).trans (sl_up_ne (by decide) (sl_up_ne (by decide) (f6_27)))
  have f7_28 : M7 28 = .inl (.int, 28, .inl fun _ => 0) := (hfr 28 (by decide)).trans (sl_up_ne (by decide) (sl_up_ne (by decide) (f6_28)))
  have f7_29 : M7 29 = .inl (.int, 28, .inl fun _ => 0) := (hfr 29 (by decide)).trans (sl_up_ne (by decide) (sl_up_ne (by decide) (f6_29)))
  have f7_30 : M7 30 = .inr (0, [.int 0, .ref 31, .ref 32]) := (hfr 30 (by decide)).trans (sl_up_ne (by decide) (sl_up_ne (by decide) (f6_30)))
  have f7_31 : M7 31 = .inl (.int, 10, .inl fun _ => 0) := (hfr 31 (by decide)).trans (sl_up_ne (by decide) (sl_up_ne (by decide) (f6_31)))
  have f7_32 : M7 32 = .inl (.int, 10, .inl fun _ => 0) := (hfr 32 (by decide)).trans (sl_up_ne (by decide) (sl_up_ne (by decide) (f6_32)))
  clear hfr
  refine slv_putF (fs' := [.ref 1, .int 0, .ref 2, .ref 10, .int 0, .ref 18, .ref 19, .ref 23, .ref 30, .ref 33, .null, .null, .int 0, .int 0, .int 0, .int 0]) eX11_init_87 gX11_54 rfl (f7_0) (Nat.le_of_ble_eq_true rfl) rfl rfl rfl ?_
  replace hw := nw_up (j := 0) (x := .inr (10, [.ref 1, .int 0, .ref 2, .ref 10, .int 0, .ref 18, .ref 19, .ref 23, .ref 30, .ref 33, .null, .null, .int 0, .int 0, .int 0, .int 0])) hw (by decide) rfl (by decide)
  refine slv_aload_n eX11_init_90 rfl ?_
  refine slv_nwo (kc' := 29) (ks' := 1044) eX11_init_91 nX11_58 hw (by decide) rfl rfl rfl (by decide) rfl rfl (fun hw => ?_)
  refine slv_dup eX11_init_94 rfl ?_
  refine slv_nwc (As := []) (kc' := 15) (ks' := 531) eX11_init_95 lX11_60 rfl rfl (c_X7_init_38 hw (sl_up_eq)) (by decide) (Nat.le_of_ble_eq_true rfl) rfl rfl hw rfl rfl ?_
  rintro _ M8 ⟨rfl, ⟨f8_38, f8_39, f8_40, f8_41, f8_42, f8_43, f8_44, f8_45, f8_46, f8_47, f8_48, f8_49, f8_50, f8_51, f8_52⟩, hfr, hw⟩
  have f8_0 : M8 0 = .inr (10, [.ref 1, .int 0, .ref 2, .ref 10, .int 0, .ref 18, .ref 19, .ref 23, .ref 30, .ref 33, .null, .null, .int 0, .int 0, .int 0, .int 0]) := (hfr 0 (by decide)).trans (sl_up_ne (by decide) (sl_up_eq))
  have f8_1 : M8 1 = .inl (.byte, 900, .inl fun _ => 0) := (hfr 1 (by decide)).trans (sl_up_ne (by decide) (sl_up_ne (by decide) (f7_1)))
  have f8_2 : M8 2 = .inr (2, [.int 0, .int 0, .int 0, .int 0, .ref 3, .ref 4, .ref 5, .ref 6, .ref 7, .ref 8, .ref 9]) := (hfr 2 (by decide)).trans (sl_up_ne (by decide) (sl_up_ne (by decide) (f7_2)))
  have f8_3 : M8 3 = .inl (.int, 6, .inl fun _ => 0) := (hfr 3 (by decide)).trans (sl_up_ne (by decide) (sl_up_ne (by decide) (f7_3)))
  have f8_4 : M8 4 = .inl (.int, 11, .inl fun _ => 0) := (hfr 4 (by decide)).trans (sl_up_ne (by decide) (sl_up_ne (by decide) (f7_4)))
  have f8_5 : M8 5 = .inl (.int, 12, .inl fun _ => 0) := (hfr 5 (by decide)).trans (sl_up_ne (by decide) (sl_up_ne (by decide) (f7_5)))
  have f8_6 : M8 6 = .inl (.int, 12, .inl fun _ => 0) := (hfr 6 (by decide)).trans (sl_up_ne (by decide) (sl_up_ne (by decide) (f7_6)))
  have f8_7 : M8 7 = .inl (.int, 12, .inl fun _ => 0) := (hfr 7 (by decide)).trans (sl_up_ne (by decide) (sl_up_ne (by decide) (f7_7)))
  have f8_8 : M8 8 = .inl (.int, 60, .inl fun _ => 0) := (hfr 8 (by decide)).trans (sl_up_ne (by decide) (sl_up_ne (by decide) (f7_8)))
  have f8_9 : M8 9 = .inl (.boolean, 12, .inl fun _ => 0) := (hfr 9 (by decide)).trans (sl_up_ne (by decide) (sl_up_ne (by decide) (f7_9)))
  have f8_10 : M8 10 = .inr (2, [.int 0, .int 0, .int 0, .int 0, .ref 11, .ref 12, .ref 13, .ref 14, .ref 15, .ref 16, .ref 17]) := (hfr 10 (by decide)).trans (sl_up_ne (by decide) (sl_up_ne (by decide) (f7_10)))
  have f8_11 : M8 11 = .inl (.int, 6, .inl fun _ => 0) := (hfr 11 (by decide)).trans (sl_up_ne (by decide) (sl_up_ne (by decide) (f7_11)))
  have f8_12 : M8 12 = .inl (.int, 11, .inl fun _ => 0) := (hfr 12 (by decide)).trans (sl_up_ne (by decide) (sl_up_ne (by decide) (f7_12)))
  have f8_13 : M8 13 = .inl (.int, 12, .inl fun _ => 0) := (hfr 13 (by decide)).trans (sl_up_ne (by decide) (sl_up_ne (by decide) (f7_13)))
  have f8_14 : M8 14 = .inl (.int, 12, .inl fun _ => 0) := (hfr 14 (by decide)).trans (sl_up_ne (by decide) (sl_up_ne (by decide) (f7_14)))
  have f8_15 : M8 15 = .inl (.int, 12, .inl fun _ => 0) := (hfr 15 (by decide)).trans (sl_up_ne (by decide) (sl_up_ne (by decide) (f7_15)))
  have f8_16 : M8 16 = .inl (.int, 60, .inl fun _ => 0) := (hfr 16 (by decide)).trans (sl_up_ne (by decide) (sl_up_ne (by decide) (f7_16)))
  have f8_17 : M8 17 = .inl (.boolean, 12, .inl fun _ => 0) := (hfr 17 (by decide)).trans (sl_up_ne (by decide) (sl_up_ne (by decide) (f7_17)))
  have f8_18 : M8 18 = .inr (3, [.int 0, .int 0, .null, .int 0, .int 0, .null, .int 0, .int 0, .int 0, .int 0, .int 0, .int 0, .int 0]) := (hfr 18 (by decide)).trans (sl_up_ne (by decide) (sl_up_ne (by decide) (f7_18)))
  have f8_19 : M8 19 = .inr (9, [.ref 20, .ref 21, .int 0, .ref 22]) := (hfr 19 (by decide)).trans (sl_up_ne (by decide) (sl_up_ne (by decide) (f7_19)))
  have f8_20 : M8 20 = .inl (.int, 6, .inl fun _ => 0) := (hfr 20 (by decide)).trans (sl_up_ne (by decide) (sl_up_ne (by decide) (f7_20)))
  have f8_21 : M8 21 = .inl (.int, 6, .inl fun _ => 0) := (hfr 21 (by decide)).trans (sl_up_ne (by decide) (sl_up_ne (by decide) (f7_21)))
  have f8_22 : M8 22 = .inl (.int, 144, .inl fun _ => 0) := (hfr 22 (by decide)).trans (sl_up_ne (by decide) (sl_up_ne (by decide) (f7_22)))
  have f8_23 : M8 23 = .inr (5, [.int 0, .ref 24, .int 0, .ref 25, .ref 26, .ref 27, .ref 28, .ref 29]) := (hfr 23 (by decide)).trans (sl_up_ne (by decide) (sl_up_ne (by decide) (f7_23)))
  have f8_24 : M8 24 = .inl (.int, 28, .inl fun _ => 0) := (hfr 24 (by decide)).trans (sl_up_ne (by decide) (sl_up_ne (by decide) (f7_24)))
  have f8_25 : M8 25 = .inl (.int, 28, .inl fun _ => 0) := (hfr 25 (by decide)).trans (sl_up_ne (by decide) (sl_up_ne (by decide) (f7_25)))
  have f8_26 : M8 26 = .inl (.int, 28, .inl fun _ => 0) := (hfr 26 (by decide)).trans (sl_up_ne (by decide) (sl_up_ne (by decide) (f7_26)))
  have f8_27 : M8 27 = .inl (.int, 28, .inl fun _ => 0) := (hfr 27 (by decide)).trans (sl_up_ne (by decide) (sl_up_ne (by decide) (f7_27)))
  have f8_28 : M8 28 = .inl (.int, 28, .inl fun _ => 0) := (hfr 28 (by decide)).trans (sl_up_ne (by decide) (sl_up_ne (by decide) (f7_28)))
  have f8_29 : M8 29 = .inl (.int, 28, .inl fun _ => 0) := (hfr 29 (by decide)).trans (sl_up_ne (by decide) (sl_up_ne (by decide) (f7_29)))
  have f8_30 : M8 30 = .inr (0, [.int 0, .ref 31, .ref 32]) := (hfr 30 (by decide)).trans (sl_up_ne (by decide) (sl_up_ne (by decide) (f7_30)))
  have f8_31 : M8 31 = .inl (.int, 10, .inl fun _ => 0) := (hfr 31 (by decide)).trans (sl_up_ne (by decide) (sl_up_ne (by decide) (f7_31)))
  have f8_32 : M8 32 = .inl (.int, 10, .inl fun _ => 0) := (hfr 32 (by decide)).trans (sl_up_ne (by decide) (sl_up_ne (by decide) (f7_32)))
  have f8_33 : M8 33 = .inr (1, [.int 0, .int 0, .ref 34, .ref 35, .ref 36, .ref 37, .null, .int 0, .int 0]) := (hfr 33 (by decide)).trans (sl_up_ne (by decide) (sl_up_ne (by decide) (f7_33)))
  have f8_34 : M8 34 = .inl (.int, 60, .inl fun _ => 0) := (hfr 34 (by decide)).trans (sl_up_ne (by decide) (sl_up_ne (by decide) (f7_34)))
  have f8_35 : M8 35 = .inl (.int, 60, .inl fun _ => 0) := (hfr 35 (by decide)).trans (sl_up_ne (by decide) (sl_up_ne (by decide) (f7_35)))
  have f8_36 : M8 36 = .inl (.boolean, 60, .inl fun _ => 0) := (hfr 36 (by decide)).trans (sl_up_ne (by decide) (sl_up_ne (by decide) (f7_36)))
  have f8_37 : M8 37 = .inl (.int, 60, .inl fun _ => 0) := (hfr 37 (by decide)).trans (sl_up_ne (by decide) (sl_up_ne (by decide) (f7_37)))
  clear hfr
  refine slv_putF (fs' := [.ref 1, .int 0, .ref 2, .ref 10, .int 0, .ref 18, .ref 19, .ref 23, .ref 30, .ref 33, .ref 38, .null, .int 0, .int 0, .int 0, .int 0]) eX11_init_98 gX11_61 rfl (f8_0) (Nat.le_of_ble_eq_true rfl) rfl rfl rfl ?_
  replace hw := nw_up (j := 0) (x := .inr (10, [.ref 1, .int 0, .ref 2, .ref 10, .int 0, .ref 18, .ref 19, .ref 23, .ref 30, .ref 33, .ref 38, .null, .int 0, .int 0, .int 0, .int 0])) hw (by decide) rfl (by decide)
  refine slv_aload_n eX11_init_101 rfl ?_
  refine slv_nwo (kc' := 14) (ks' := 513) eX11_init_102 nX11_58 hw (by decide) rfl rfl rfl (by decide) rfl rfl (fun hw => ?_)
  refine slv_dup eX11_init_105 rfl ?_
  refine slv_nwc (As := []) (kc' := 0) (ks' := 0) eX11_init_106 lX11_60 rfl rfl (c_X7_init_53 hw (sl_up_eq)) (by decide) (Nat.le_of_ble_eq_true rfl) rfl rfl hw rfl rfl ?_
  rintro _ M9 ⟨rfl, ⟨f9_53, f9_54, f9_55, f9_56, f9_57, f9_58, f9_59, f9_60, f9_61, f9_62, f9_63, f9_64, f9_65, f9_66, f9_67⟩, hfr, hw⟩
  have f9_0 : M9 0 = .inr (10, [.ref 1, .int 0, .ref 2, .ref 10, .int 0, .ref 18, .ref 19, .ref 23, .ref 30, .ref 33, .ref 38, .null, .int 0, .int 0, .int 0, .int 0]) := (hfr 0 (by decide)).trans (sl_up_ne (by decide) (sl_up_eq))
  have f9_1 : M9 1 = .inl (.byte, 900, .inl fun _ => 0) := (hfr 1 (by decide)).trans (sl_up_ne (by decide) (sl_up_ne (by decide) (f8_1)))
  have f9_2 : M9 2 = .inr (2, [.int 0, .int 0, .int 0, .int 0, .ref 3, .ref 4, .ref 5, .ref 6, .ref 7, .ref 8, .ref 9]) := (hfr 2 (by decide)).trans (sl_up_ne (by decide) (sl_up_ne (by decide) (f8_2)))
  have f9_3 : M9 3 = .inl (.int, 6, .inl fun _ => 0) := (hfr 3 (by decide)).trans (sl_up_ne (by decide) (sl_up_ne (by decide) (f8_3)))
  have f9_4 : M9 4 = .inl (.int, 11, .inl fun _ => 0) := (hfr 4 (by decide)).trans (sl_up_ne (by decide) (sl_up_ne (by decide) (f8_4)))
  have f9_5 : M9 5 = .inl (.int, 12, .inl fun _ => 0) := (hfr 5 (by decide)).trans (sl_up_ne (by decide) (sl_up_ne (by decide) (f8_5)))
  have f9_6 : M9 6 = .inl (.int, 12, .inl fun _ => 0) := (hfr 6 (by decide)).trans (sl_up_ne (by decide) (sl_up_ne (by decide) (f8_6)))
  have f9_7 : M9 7 = .inl (.int, 12, .inl fun _ => 0) := (hfr 7 (by decide)).trans (sl_up_ne (by decide) (sl_up_ne (by decide) (f8_7)))
  have f9_8 : M9 8 = .inl (.int, 60, .inl fun _ => 0) := (hfr 8 (by decide)).trans (sl_up_ne (by decide) (sl_up_ne (by decide) (f8_8)))
  have f9_9 : M9 9 = .inl (.boolean, 12, .inl fun _ => 0) := (hfr 9 (by decide)).trans (sl_up_ne (by decide) (sl_up_ne (by decide) (f8_9)))
  have f9_10 : M9 10 = .inr (2, [.int 0, .int 0, .int 0, .int 0, .ref 11, .ref 12, .ref 13, .ref 14, .ref 15, .ref 16, .ref 17]) := (hfr 10 (by decide)).trans (sl_up_ne (by decide) (sl_up_ne (by decide) (f8_10)))
  have f9_11 : M9 11 = .inl (.int, 6, .inl fun _ => 0) := (hfr 11 (by decide)).trans (sl_up_ne (by decide) (sl_up_ne (by decide) (f8_11)))
  have f9_12 : M9 12 = .inl (.int, 11, .inl fun _ => 0) := (hfr 12 (by decide)).trans (sl_up_ne (by decide) (sl_up_ne (by decide) (f8_12)))
  have f9_13 : M9 13 = .inl (.int, 12, .inl fun _ => 0) := (hfr 13 (by decide)).trans (sl_up_ne (by decide) (sl_up_ne (by decide) (f8_13)))
  have f9_14 : M9 14 = .inl (.int, 12, .inl fun _ => 0) := (hfr 14 (by decide)).trans (sl_up_ne (by decide) (sl_up_ne (by decide) (f8_14)))
  have f9_15 : M9 15 = .inl (.int, 12, .inl fun _ => 0) := (hfr 15 (by decide)).trans (sl_up_ne (by decide) (sl_up_ne (by decide) (f8_15)))
  have f9_16 : M9 16 = .inl (.int, 60, .inl fun _ => 0) := (hfr 16 (by decide)).trans (sl_up_ne (by decide) (sl_up_ne (by decide) (f8_16)))
  have f9_17 : M9 17 = .inl (.boolean, 12, .inl fun _ => 0) := (hfr 17 (by decide)).trans (sl_up_ne (by decide) (sl_up_ne (by decide) (f8_17)))
  have f9_18 : M9 18 = .inr (3, [.int 0, .int 0, .null, .int 0, .int 0, .null, .int 0, .int 0, .int 0, .int 0, .int 0, .int 0, .int 0]) := (hfr 18 (by decide)).trans (sl_up_ne (by decide) (sl_up_ne (by decide) (f8_18)))
  have f9_19 : M9 19 = .inr (9, [.ref 20, .ref 21, .int 0, .ref 22]) := (hfr 19 (by decide)).trans (sl_up_ne (by decide) (sl_up_ne (by decide) (f8_19)))
  have f9_20 : M9 20 = .inl (.int, 6, .inl fun _ => 0) := (hfr 20 (by decide)).trans (sl_up_ne (by decide) (sl_up_ne (by decide) (f8_20)))
  have f9_21 : M9 21 = .inl (.int, 6, .inl fun _ => 0) := (hfr 21 (by decide)).trans (sl_up_ne (by decide) (sl_up_ne (by decide) (f8_21)))
  have f9_22 : M9 22 = .inl (.int, 144, .inl fun _ => 0) := (hfr 22 (by decide)).trans (sl_up_ne (by decide) (sl_up_ne (by decide) (f8_22)))
  have f9_23 : M9 23 = .inr (5, [.int 0, .ref 24, .int 0, .ref 25, .ref 26, .ref 27, .ref 28, .ref 29]) := (hfr 23 (by decide)).trans (sl_up_ne (by decide) (sl_up_ne (by decide) (f8_23)))
  have f9_24 : M9 24 = .inl (.int, 28, .inl fun _ => 0) := (hfr 24 (by decide)).trans (sl_up_ne (by decide) (sl_up_ne (by decide) (f8_24)))
  have f9_25 : M9 25 = .inl (.int, 28, .inl fun _ => 0) := (hfr 25 (by decide)).trans (sl_up_ne (by decide) (sl_up_ne (by decide) (f8_25)))
  have f9_26 : M9 26 = .inl (.int, 28, .inl fun _ => 0) := (hfr 26 (by decide)).trans (sl_up_ne (by decide) (sl_up_ne (by decide) (f8_26)))
  have f9_27 : M9 27 = .inl (.int, 28, .inl fun _ => 0) := (hfr 27 (by decide)).trans (sl_up_ne (by decide) (sl_up_ne (by decide) (f8_27)))
  have f9_28 : M9 28 = .inl (.int, 28, .inl fun _ => 0) := (hfr 28 (by decide)).trans (sl_up_ne (by decide) (sl_up_ne (by decide) (f8_28)))
  have f9_29 : M9 29 = .inl (.int, 28, .inl fun _ => 0) := (hfr 29 (by decide)).trans (sl_up_ne (by decide) (sl_up_ne (by decide) (f8_29)))
  have f9_30 : M9 30 = .inr (0, [.int 0, .ref 31, .ref 32]) := (hfr 30 (by decide)).trans (sl_up_ne (by decide) (sl_up_ne (by decide) (f8_30)))
  have f9_31 : M9 31 = .inl (.int, 10, .inl fun _ => 0) := (hfr 31 (by decide)).trans (sl_up_ne (by decide) (sl_up_ne (by decide) (f8_31)))
  have f9_32 : M9 32 = .inl (.int, 10, .inl fun _ => 0) := (hfr 32 (by decide)).trans (sl_up_ne (by decide) (sl_up_ne (by decide) (f8_32)))
  have f9_33 : M9 33 = .inr (1, [.int 0, .int 0, .ref 34, .ref 35, .ref 36, .ref 37, .null, .int 0, .int 0]) := (hfr 33 (by decide)).trans (sl_up_ne (by decide) (sl_up_ne (by decide) (f8_33)))
  have f9_34 : M9 34 = .inl (.int, 60, .inl fun _ => 0) := (hfr 34 (by decide)).trans (sl_up_ne (by decide) (sl_up_ne (by decide) (f8_34)))
  have f9_35 : M9 35 = .inl (.int, 60, .inl fun _ => 0) := (hfr 35 (by decide)).trans (sl_up_ne (by decide) (sl_up_ne (by decide) (f8_35)))
  have f9_36 : M9 36 = .inl (.boolean, 60, .inl fun _ => 0) := (hfr 36 (by decide)).trans (sl_up_ne (by decide) (sl_up_ne (by decide) (f8_36)))
  have f9_37 : M9 37 = .inl (.int, 60, .inl fun _ => 0) := (hfr 37 (by decide)).trans (sl_up_ne (by decide) (sl_up_ne (by decide) (f8_37)))
  have f9_38 : M9 38 = .inr (7, [.int 0, .int 0, .int 0, .int 0, .int 0, .ref 39, .null, .null, .null, .null, .int 0, .int 0, .int 0, .ref 47, .ref 48, .ref 49, .ref 50, .ref 52]) := (hfr 38 (by decide)).trans (sl_up_ne (by decide) (sl_up_ne (by decide) (f8_38)))
  have f9_39 : M9 39 = .inr (6, [.int 0, .ref 40, .ref 41, .ref 42, .ref 43, .ref 44, .ref 45, .ref 46]) := (hfr 39 (by decide)).trans (sl_up_ne (by decide) (sl_up_ne (by decide) (f8_39)))
  have f9_40 : M9 40 = .inl (.int, 60, .inl fun _ => 0) := (hfr 40 (by decide)).trans (sl_up_ne (by decide) (sl_up_ne (by decide) (f8_40)))
  have f9_41 : M9 41 = .inl (.int, 60, .inl fun _ => 0) := (hfr 41 (by decide)).trans (sl_up_ne (by decide) (sl_up_ne (by decide) (f8_41)))
  have f9_42 : M9 42 = .inl (.int, 60, .inl fun _ => 0) := (hfr 42 (by decide)).trans (sl_up_ne (by decide) (sl_up_ne (by decide) (f8_42)))
  have f9_43 : M9 43 = .inl (.int, 60, .inl fun _ => 0) := (hfr 43 (by decide)).trans (sl_up_ne (by decide) (sl_up_ne (by decide) (f8_43)))
  have f9_44 : M9 44 = .inl (.int, 60, .inl fun _ => 0) := (hfr 44 (by decide)).trans (sl_up_ne (by decide) (sl_up_ne (by decide) (f8_44)))
  have f9_45 : M9 45 = .inl (.boolean, 60, .inl fun _ => 0) := (hfr 45 (by decide)).trans (sl_up_ne (by decide) (sl_up_ne (by decide) (f8_45)))
  have f9_46 : M9 46 = .inl (.int, 60, .inl fun _ => 0) := (hfr 46 (by decide)).trans (sl_up_ne (by decide) (sl_up_ne (by decide) (f8_46)))
  have f9_47 : M9 47 = .inl (.int, 16, .inl fun _ => 0) := (hfr 47 (by decide)).trans (sl_up_ne (by decide) (sl_up_ne (by decide) (f8_47)))
  have f9_48 : M9 48 = .inl (.int, 16, .inl fun _ => 0) := (hfr 48 (by decide)).trans (sl_up_ne (by decide) (sl_up_ne (by decide) (f8_48)))
  have f9_49 : M9 49 = .inl (.int, 16, .inl fun _ => 0) := (hfr 49 (by decide)).trans (sl_up_ne (by decide) (sl_up_ne (by decide) (f8_49)))
  have f9_50 : M9 50 = .inr (4, [.int 0, .int 0, .int 0, .ref 51]) := (hfr 50 (by decide)).trans (sl_up_ne (by decide) (sl_up_ne (by decide) (f8_50)))
  have f9_51 : M9 51 = .inl (.int, 31, .inl fun _ => 0) := (hfr 51 (by decide)).trans (sl_up_ne (by decide) (sl_up_ne (by decide) (f8_51)))
  have f9_52 : M9 52 = .inr (8, [.int 0, .int 0]) := (hfr 52 (by decide)).trans (sl_up_ne (by decide) (sl_up_ne (by decide) (f8_52)))
  clear hfr
  refine slv_putF (fs' := [.ref 1, .int 0, .ref 2, .ref 10, .int 0, .ref 18, .ref 19, .ref 23, .ref 30, .ref 33, .ref 38, .ref 53, .int 0, .int 0, .int 0, .int 0]) eX11_init_109 gX11_65 rfl (f9_0) (Nat.le_of_ble_eq_true rfl) rfl rfl rfl ?_
  replace hw := nw_up (j := 0) (x := .inr (10, [.ref 1, .int 0, .ref 2, .ref 10, .int 0, .ref 18, .ref 19, .ref 23, .ref 30, .ref 33, .ref 38, .ref 53, .int 0, .int 0, .int 0, .int 0])) hw (by decide) rfl (by decide)
  refine slv_vret eX11_init_112 rfl ?_
  exact ⟨rfl, ⟨(sl_up_eq), (sl_up_ne (by decide) (f9_1)), (sl_up_ne (by decide) (f9_2)), (sl_up_ne (by decide) (f9_3)), (sl_up_ne (by decide) (f9_4)), (sl_up_ne (by decide) (f9_5)), (sl_up_ne (by decide) (f9_6)), (sl_up_ne (by decide) (f9_7)), (sl_up_ne (by decide) (f9_8)), (sl_up_ne (by decide) (f9_9)), (sl_up_ne (by decide) (f9_10)), (sl_up_ne (by decide) (f9_11)), (sl_up_ne (by decide) (f9_12)), (sl_up_ne (by decide) (f9_13)), (sl_up_ne (by decide) (f9_14)), (sl_up_ne (by decide) (f9_15)), (sl_up_ne (by decide) (f9_16)), (sl_up_ne (by decide) (f9_17)), (sl_up_ne (by decide) (f9_18)), (sl_up_ne (by decide) (f9_19)), (sl_up_ne (by decide) (f9_20)), (sl_up_ne (by decide) (f9_21)), (sl_up_ne (by decide) (f9_22)), (sl_up_ne (by decide) (f9_23)), (sl_up_ne (by decide) (f9_24)), (sl_up_ne (by decide) (f9_25)), (sl_up_ne (by decide) (f9_26)), (sl_up_ne (by decide) (f9_27)), (sl_up_ne (by decide) (f9_28)), (sl_up_ne (by decide) (f9_29)), (sl_up_ne (by decide) (f9_30)), (sl_up_ne (by decide) (f9_31)), (sl_up_ne (by decide) (f9_32)), (sl_up_ne (by decide) (f9_33)), (sl_up_ne (by decide) (f9_34)), (sl_up_ne (by decide) (f9_35)), (sl_up_ne (by decide) (f9_36)), (sl_up_ne (by decide) (f9_37)), (sl_up_ne (by decide) (f9_38)), (sl_up_ne (by decide) (f9_39)), (sl_up_ne (by decide) (f9_40)), (sl_up_ne (by decide) (f9_41)), (sl_up_ne (by decide) (f9_42)), (sl_up_ne (by decide) (f9_43)), (sl_up_ne (by decide) (f9_44)), (sl_up_ne (by decide) (f9_45)), (sl_up_ne (by decide) (f9_46)), (sl_up_ne (by decide) (f9_47)), (sl_up_ne (by decide) (f9_48)), (sl_up_ne (by decide) (f9_49)), (sl_up_ne (by decide) (f9_50)), (sl_up_ne (by decide) (f9_51)), (sl_up_ne (by decide) (f9_52)), (sl_up_ne (by decide) (f9_53)), (sl_up_ne (by decide) (f9_54)), (sl_up_ne (by decide) (f9_55)), (sl_up_ne (by decide) (f9_56)), (sl_up_ne (by decide) (f9_57)), (sl_up_ne (by decide) (f9_58)), (sl_up_ne (by decide) (f9_59)), (sl_up_ne (by decide) (f9_60)), (sl_up_ne (by decide) (f9_61)), (sl_up_ne (by decide) (f9_62)), (sl_up_ne (by decide) (f9_63)), (sl_up_ne (by decide) (f9_64)), (sl_up_ne (by decide) (f9_65)), (sl_up_ne (by decide) (f9_66)), (sl_up_ne (by decide) (f9_67))⟩, hw⟩
