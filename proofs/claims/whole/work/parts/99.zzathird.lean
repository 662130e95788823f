/-! a third: the reference, and both alike -/
theorem db_w1 : Cond.methodLink RJxe99ae 134 ⟨"java/lang/Double", "doubleToRawLongBits", "(D)J"⟩ ∈ sl_g := sl_gt18 154 (by decide +kernel) rfl
theorem db_w2 : Cond.native ⟨"java/lang/Double", "doubleToRawLongBits", "(D)J"⟩ ∈ sl_g := sl_gt18 156 (by decide +kernel) rfl
theorem db_w3 : Cond.static ⟨"java/lang/Double", "doubleToRawLongBits", "(D)J"⟩ ∈ sl_g := sl_gt18 155 (by decide +kernel) rfl
theorem db_w4 : Cond.initialized "java/lang/Double" ∈ sl_g := sl_gt10 23 (by decide +kernel) rfl
theorem nan_val64 (x : UInt64) : isNaN64 x = true ↔ FP.Core.val64 x = .nan := by
  rw [← FP.Core.dIsNaN_iff, FP.Core.isNaN_bits, isNaN64_iff]
  rw [show (0x7fffffffffffffff : Nat) = 2 ^ 63 - 1 from rfl, Nat.and_two_pow_sub_one_eq_mod]
theorem nan_cmp64 (x : UInt64) : Op.cmpValue (FP.dcmp x x) .l = 0 ↔ isNaN64 x = false := by
  cases h : isNaN64 x with
  | true =>
    have e : FP.dcmp x x = none := (FP.Core.dcmp_none x x).mpr (Or.inl ((nan_val64 x).mp h))
    rw [e]
    decide
  | false =>
    have e : FP.dcmp x x = some .eq := FP.Core.dcmp_self (fun q => by rw [(nan_val64 x).mpr q] at h; cases h)
    rw [e]
    decide
/-- the bits of a double, one NaN for all -/
def db_b (x : UInt64) : Int64 := if isNaN64 x = true then 9221120237041090560 else x.toInt64
theorem db_b_alike {x y : UInt64} (h : alike64 x y = true) : db_b x = db_b y := by
  unfold alike64 at h
  rcases Bool.or_eq_true _ _ ▸ h with h | h
  · rw [of_decide_eq_true h]
  · rw [Bool.and_eq_true] at h
    unfold db_b
    rw [if_pos h.1, if_pos h.2]
theorem can_of64 {d : FP.Core.Datum} (h : FP.Core.fits FP.Core.b64 d) : db_b (FP.Core.of64 d) = (FP.Core.of64 d).toInt64 := by
  unfold db_b
  by_cases hn : isNaN64 (FP.Core.of64 d) = true
  · rw [if_pos hn]
    have e := (nan_val64 _).mp hn
    rw [FP.Core.val64_of64 h] at e
    rw [e]
    decide +kernel
  · rw [if_neg hn]
theorem db_div (x y : UInt64) : db_b (FP.ddiv x y) = (FP.ddiv x y).toInt64 := can_of64 (FP.Core.quotient_fits FP.Core.good_b64 (FP.Core.val64 x) (FP.Core.val64 y))
theorem ddiv_alike {x x' y : UInt64} (h : alike64 x x' = true) : FP.ddiv x y = FP.ddiv x' y := by
  unfold alike64 at h
  rcases Bool.or_eq_true _ _ ▸ h with h | h
  · rw [of_decide_eq_true h]
  · rw [Bool.and_eq_true] at h
    show FP.Core.of64 _ = FP.Core.of64 _
    have e1 : FP.Core.decode FP.Core.b64 x.toNat = .nan := (nan_val64 x).mp h.1
    have e2 : FP.Core.decode FP.Core.b64 x'.toNat = .nan := (nan_val64 x').mp h.2
    rw [e1, e2]
set_option maxRecDepth 100000 in
theorem c_isNaND (M : sl_M) (x : UInt64) : sl_R YJxe99ae_isNaN_b9ae7 0 [.double x] M (some (.int (sl_bi (isNaN64 x)))) M := by
  have h := nan_cmp64 x
  refine sl_T.of_VF (lv := [_, _]) (by decide +kernel) rfl (Nat.le_of_ble_eq_true rfl) ?_
  refine slv_dload_n eJxe99ae_isNaN_b9ae7_0 rfl ?_
  refine slv_dload_n eJxe99ae_isNaN_b9ae7_1 rfl ?_
  refine slv_dcmp eJxe99ae_isNaN_b9ae7_2 ?_
  refine slv_if_eq eJxe99ae_isNaN_b9ae7_3 (fun h3 => ?_) (fun h3 => ?_)
  · refine slv_iconst (v := nI 0) eJxe99ae_isNaN_b9ae7_10 (by decide) ?_
    refine slv_zret eJxe99ae_isNaN_b9ae7_11 rfl rfl ?_
    refine ⟨?_, rfl⟩
    first | (rw [h.mp h3]; rfl) | (rw [show isNaN64 x = true from Bool.not_eq_false _ ▸ (fun q => h3 (h.mpr q))]; rfl)
  · refine slv_iconst (v := nI 1) eJxe99ae_isNaN_b9ae7_6 (by decide) ?_
    refine slv_goto eJxe99ae_isNaN_b9ae7_7 ?_
    refine slv_zret eJxe99ae_isNaN_b9ae7_11 rfl rfl ?_
    refine ⟨?_, rfl⟩
    first | (rw [h.mp h3]; rfl) | (rw [show isNaN64 x = true from Bool.not_eq_false _ ▸ (fun q => h3 (h.mpr q))]; rfl)
set_option maxRecDepth 100000 in
theorem c_dbits (M : sl_M) (x : UInt64) : sl_R YJxe99ae_doubleToLongBits_ccdee 1 [.double x] M (some (.long (db_b x))) M := by
  have h := c_isNaND M x
  refine sl_T.of_VF (lv := [_, _]) (by decide +kernel) rfl (Nat.le_of_ble_eq_true rfl) ?_
  unfold db_b
  cases hn : isNaN64 x with
  | true =>
    rw [hn] at h
    refine slv_dload_n eJxe99ae_doubleToLongBits_ccdee_0 rfl ?_
    refine slv_rS (As := [_]) eJxe99ae_doubleToLongBits_ccdee_1 lJxe99ae_122 rfl rfl h (by decide) (Nat.le_of_ble_eq_true rfl) ?_
    refine slv_if_neB eJxe99ae_doubleToLongBits_ccdee_4 (fun h4 => ?_) (fun h4 => absurd h4 (by decide))
    refine slv_ldc2 eJxe99ae_doubleToLongBits_ccdee_12 kJxe99ae_137 ?_
    refine slv_lret eJxe99ae_doubleToLongBits_ccdee_15 rfl ?_
    exact ⟨rfl, rfl⟩
  | false =>
    rw [hn] at h
    refine slv_dload_n eJxe99ae_doubleToLongBits_ccdee_0 rfl ?_
    refine slv_rS (As := [_]) eJxe99ae_doubleToLongBits_ccdee_1 lJxe99ae_122 rfl rfl h (by decide) (Nat.le_of_ble_eq_true rfl) ?_
    refine slv_if_neB eJxe99ae_doubleToLongBits_ccdee_4 (fun h4 => absurd h4 (by decide)) (fun h4 => ?_)
    refine slv_dload_n eJxe99ae_doubleToLongBits_ccdee_7 rfl ?_
    refine slv_d2bits eJxe99ae_doubleToLongBits_ccdee_8 db_w1 db_w2 db_w3 db_w4 (by decide) (Nat.le_of_ble_eq_true rfl) ?_
    refine slv_lret eJxe99ae_doubleToLongBits_ccdee_11 rfl ?_
    exact ⟨rfl, rfl⟩
