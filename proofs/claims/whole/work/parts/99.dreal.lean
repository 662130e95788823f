/-! a value as a float -/
theorem ib_w1 : Cond.methodLink RX12 489 ⟨"java/lang/Float", "intBitsToFloat", "(I)F"⟩ ∈ sl_g := sl_gt18 74 (by decide +kernel) rfl
theorem ib_w2 : Cond.native ⟨"java/lang/Float", "intBitsToFloat", "(I)F"⟩ ∈ sl_g := sl_gt18 76 (by decide +kernel) rfl
theorem ib_w3 : Cond.static ⟨"java/lang/Float", "intBitsToFloat", "(I)F"⟩ ∈ sl_g := sl_gt18 75 (by decide +kernel) rfl
section RRE
variable {v : Nat → Int32} {w : Int64} {a : Nat → Nat → Int32} {nm : Nat → Int64} {M : sl_M}
set_option maxRecDepth 100000 in
theorem c_X12_real {i : Nat} {r : Bool} {x : Int32} (hi : i < 2) (h1 : a 76 i = sl_bi r) (h2 : a 68 i = x) (h3 : r = true → vn_sni2f x = false) : sl_R YX12_real 1 [.ref 68, .int (nI i)] (rf_S v w a nm M) (some (.float (cond r x.toUInt32 (FP.i2f x)))) (rf_S v w a nm M) := by
  refine sl_T.of_V (lv := [_, _]) (by decide) rfl (Nat.le_of_ble_eq_true rfl) ?_
  cases r with
  | false =>
    refine slv_aload_n eX12_real_0 rfl ?_
    refine slr_ga (p := 112) eX12_real_1 fX12_146 rfl ?_
    refine slv_iload_n eX12_real_4 rfl ?_
    refine slr_zaldX (k := 76) (p := 112) (len := 17) eX12_real_5 rfl (by repeat (first | exact sl_u_eq | assumption | apply rf_ne (by decide) | exact rfl)) (by omega) (by decide) h1 ?_
    refine slv_if_eqB eX12_real_6 (fun h6 => ?_) (fun h6 => absurd h6 (by decide))
    refine slv_aload_n eX12_real_21 rfl ?_
    refine slr_ga (p := 104) eX12_real_22 fX12_122 rfl ?_
    refine slv_iload_n eX12_real_25 rfl ?_
    refine slr_ialdX (k := 68) (p := 104) (len := 17) eX12_real_26 rfl (by repeat (first | exact sl_u_eq | assumption | apply rf_ne (by decide) | exact rfl)) (by omega) (by decide) h2 ?_
    refine slv_i2f eX12_real_27 ?_
    refine slv_fret eX12_real_28 rfl ?_
    exact ⟨rfl, rfl⟩
  | true =>
    have hv := h3 rfl
    refine slv_aload_n eX12_real_0 rfl ?_
    refine slr_ga (p := 112) eX12_real_1 fX12_146 rfl ?_
    refine slv_iload_n eX12_real_4 rfl ?_
    refine slr_zaldX (k := 76) (p := 112) (len := 17) eX12_real_5 rfl (by repeat (first | exact sl_u_eq | assumption | apply rf_ne (by decide) | exact rfl)) (by omega) (by decide) h1 ?_
    refine slv_if_eqB eX12_real_6 (fun h6 => absurd h6 (by decide)) (fun h6 => ?_)
    refine slv_aload_n eX12_real_9 rfl ?_
    refine slr_ga (p := 104) eX12_real_10 fX12_122 rfl ?_
    refine slv_iload_n eX12_real_13 rfl ?_
    refine slr_ialdX (k := 68) (p := 104) (len := 17) eX12_real_14 rfl (by repeat (first | exact sl_u_eq | assumption | apply rf_ne (by decide) | exact rfl)) (by omega) (by decide) h2 ?_
    refine slv_bits2f eX12_real_15 ib_w1 ib_w2 ib_w3 fb_w4 (by decide) (Nat.le_of_ble_eq_true rfl) hv ?_
    refine slv_goto eX12_real_18 ?_
    refine slv_fret eX12_real_28 rfl ?_
    exact ⟨rfl, rfl⟩
end RRE
