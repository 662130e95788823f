/-! the class's floats (X8): products, quotients, wholes, digits, thirds; rr_all -/
section REG
theorem re_isnan (a : Int32) : isNaN32 a.toUInt32 = decide (2139095040 < a.toUInt32.toNat % 2 ^ 31) := by
  have e : (a.toUInt32 &&& 2147483647) = fq_abs a.toUInt32 := rfl
  unfold isNaN32
  rw [decide_eq_decide, e]
  show (2139095040 : UInt32) < fq_abs a.toUInt32 ↔ _
  rw [UInt32.lt_iff_toNat_lt, fq_absn]
  rfl
set_option maxRecDepth 100000 in
theorem c_X8_negated (M : sl_M) (a : Int32) : sl_R YX8_negated 1 [.int a] M (some (.int (rr_neg a))) M := by
  refine sl_T.of_V (lv := [_]) (by decide) rfl (Nat.le_of_ble_eq_true rfl) ?_
  have hna := c_X8_isNoNumber M a
  unfold rr_neg
  rw [re_isnan]
  by_cases a1 : 2139095040 < a.toUInt32.toNat % 2 ^ 31
  · rw [decide_eq_true a1] at hna ⊢
    refine slv_iload_n eX8_negated_0 rfl ?_
    refine slv_rS (As := [_]) eX8_negated_1 lX8_23 rfl rfl hna (by decide) (Nat.le_of_ble_eq_true rfl) ?_
    refine slv_if_eqB eX8_negated_4 (fun h4 => absurd h4 (by decide)) (fun h4 => ?_)
    refine slv_ldc eX8_negated_7 kX8_34 ?_
    refine slv_goto eX8_negated_9 ?_
    refine slv_iret eX8_negated_16 rfl ?_
    exact ⟨rfl, rfl⟩
  · rw [decide_eq_false a1] at hna ⊢
    refine slv_iload_n eX8_negated_0 rfl ?_
    refine slv_rS (As := [_]) eX8_negated_1 lX8_23 rfl rfl hna (by decide) (Nat.le_of_ble_eq_true rfl) ?_
    refine slv_if_eqB eX8_negated_4 (fun h4 => ?_) (fun h4 => absurd h4 (by decide))
    refine slv_iload_n eX8_negated_12 rfl ?_
    refine slv_ldc eX8_negated_13 kX8_22 ?_
    refine slv_ixor eX8_negated_15 ?_
    refine slv_iret eX8_negated_16 rfl ?_
    exact ⟨rfl, rfl⟩
theorem re_sx (a b : Int32) (y : UInt32) : ((a ^^^ b) &&& -2147483648) ||| y.toInt32 = (((a.toUInt32 ^^^ b.toUInt32) &&& 2147483648) ||| y).toInt32 := rfl
theorem re_sx0 (a b : Int32) : ((a ^^^ b) &&& -2147483648) = (((a.toUInt32 ^^^ b.toUInt32) &&& 2147483648)).toInt32 := rfl
theorem re_fl31 (M : sl_M) {a : Int32} (h : a.toUInt32.toNat % 2 ^ 31 < 2139095040) : sl_R YX8_floatOf 0 [.int (a &&& 2147483647)] M (some (.float (fq_abs a.toUInt32))) M := by
  have := c_X8_floatOf M (a := a &&& 2147483647) (by rw [re_absu, fq_absn]; omega)
  rw [re_absu, re_gabs] at this
  exact this
set_option maxRecDepth 100000 in
theorem c_X8_product (M : sl_M) (a b : Int32) : sl_R YX8_product 1 [.int a, .int b] M (some (.int (FP.fmul a.toUInt32 b.toUInt32).toInt32)) M := by
  refine sl_T.of_V (lv := [_, _, _]) (by decide) rfl (Nat.le_of_ble_eq_true rfl) ?_
  have hna := c_X8_isNoNumber M a
  have hnb := c_X8_isNoNumber M b
  have hia := c_X8_isInfinite M a
  have hib := c_X8_isInfinite M b
  have hza := c_X8_isZero M a
  have hzb := c_X8_isZero M b
  by_cases a1 : 2139095040 < a.toUInt32.toNat % 2 ^ 31
  · rw [decide_eq_true a1] at hna
    rw [show FP.fmul a.toUInt32 b.toUInt32 = 2143289344 from fq_muln (Or.inl a1)]
    refine slv_iload_n eX8_product_0 rfl ?_
    refine slv_rS (As := [_]) eX8_product_1 lX8_23 rfl rfl hna (by decide) (Nat.le_of_ble_eq_true rfl) ?_
    refine slv_if_neB eX8_product_4 (fun h4 => ?_) (fun h4 => absurd h4 (by decide))
    refine slv_ldc eX8_product_42 kX8_34 ?_
    refine slv_iret eX8_product_44 rfl ?_
    exact ⟨rfl, rfl⟩
  rw [decide_eq_false a1] at hna
  by_cases b1 : 2139095040 < b.toUInt32.toNat % 2 ^ 31
  · rw [decide_eq_true b1] at hnb
    rw [show FP.fmul a.toUInt32 b.toUInt32 = 2143289344 from fq_muln (Or.inr (Or.inl b1))]
    refine slv_iload_n eX8_product_0 rfl ?_
    refine slv_rS (As := [_]) eX8_product_1 lX8_23 rfl rfl hna (by decide) (Nat.le_of_ble_eq_true rfl) ?_
    refine slv_if_neB eX8_product_4 (fun h4 => absurd h4 (by decide)) (fun h4 => ?_)
    refine slv_iload_n eX8_product_7 rfl ?_
    refine slv_rS (As := [_]) eX8_product_8 lX8_23 rfl rfl hnb (by decide) (Nat.le_of_ble_eq_true rfl) ?_
    refine slv_if_neB eX8_product_11 (fun h11 => ?_) (fun h11 => absurd h11 (by decide))
    refine slv_ldc eX8_product_42 kX8_34 ?_
    refine slv_iret eX8_product_44 rfl ?_
    exact ⟨rfl, rfl⟩
  rw [decide_eq_false b1] at hnb
  by_cases a2 : a.toUInt32.toNat % 2 ^ 31 = 2139095040
  · rw [decide_eq_true a2] at hia
    by_cases b0 : b.toUInt32.toNat % 2 ^ 31 = 0
    · rw [decide_eq_true b0] at hzb
      rw [show FP.fmul a.toUInt32 b.toUInt32 = 2143289344 from fq_muln (Or.inr (Or.inr (Or.inl ⟨a2, b0⟩)))]
      refine slv_iload_n eX8_product_0 rfl ?_
      refine slv_rS (As := [_]) eX8_product_1 lX8_23 rfl rfl hna (by decide) (Nat.le_of_ble_eq_true rfl) ?_
      refine slv_if_neB eX8_product_4 (fun h4 => absurd h4 (by decide)) (fun h4 => ?_)
      refine slv_iload_n eX8_product_7 rfl ?_
      refine slv_rS (As := [_]) eX8_product_8 lX8_23 rfl rfl hnb (by decide) (Nat.le_of_ble_eq_true rfl) ?_
      refine slv_if_neB eX8_product_11 (fun h11 => absurd h11 (by decide)) (fun h11 => ?_)
      refine slv_iload_n eX8_product_14 rfl ?_
      refine slv_rS (As := [_]) eX8_product_15 lX8_27 rfl rfl hia (by decide) (Nat.le_of_ble_eq_true rfl) ?_
      refine slv_if_eqB eX8_product_18 (fun h18 => absurd h18 (by decide)) (fun h18 => ?_)
      refine slv_iload_n eX8_product_21 rfl ?_
      refine slv_rS (As := [_]) eX8_product_22 lX8_35 rfl rfl hzb (by decide) (Nat.le_of_ble_eq_true rfl) ?_
      refine slv_if_neB eX8_product_25 (fun h25 => ?_) (fun h25 => absurd h25 (by decide))
      refine slv_ldc eX8_product_42 kX8_34 ?_
      refine slv_iret eX8_product_44 rfl ?_
      exact ⟨rfl, rfl⟩
    · rw [decide_eq_false b0] at hzb
      rw [decide_eq_false (by omega)] at hza
      rw [show FP.fmul a.toUInt32 b.toUInt32 = _ from fq_muli a2 (by omega) b0]
      refine slv_iload_n eX8_product_0 rfl ?_
      refine slv_rS (As := [_]) eX8_product_1 lX8_23 rfl rfl hna (by decide) (Nat.le_of_ble_eq_true rfl) ?_
      refine slv_if_neB eX8_product_4 (fun h4 => absurd h4 (by decide)) (fun h4 => ?_)
      refine slv_iload_n eX8_product_7 rfl ?_
      refine slv_rS (As := [_]) eX8_product_8 lX8_23 rfl rfl hnb (by decide) (Nat.le_of_ble_eq_true rfl) ?_
      refine slv_if_neB eX8_product_11 (fun h11 => absurd h11 (by decide)) (fun h11 => ?_)
      refine slv_iload_n eX8_product_14 rfl ?_
      refine slv_rS (As := [_]) eX8_product_15 lX8_27 rfl rfl hia (by decide) (Nat.le_of_ble_eq_true rfl) ?_
      refine slv_if_eqB eX8_product_18 (fun h18 => absurd h18 (by decide)) (fun h18 => ?_)
      refine slv_iload_n eX8_product_21 rfl ?_
      refine slv_rS (As := [_]) eX8_product_22 lX8_35 rfl rfl hzb (by decide) (Nat.le_of_ble_eq_true rfl) ?_
      refine slv_if_neB eX8_product_25 (fun h25 => absurd h25 (by decide)) (fun h25 => ?_)
      refine slv_iload_n eX8_product_28 rfl ?_
      refine slv_rS (As := [_]) eX8_product_29 lX8_35 rfl rfl hza (by decide) (Nat.le_of_ble_eq_true rfl) ?_
      refine slv_if_eqB eX8_product_32 (fun h32 => ?_) (fun h32 => absurd h32 (by decide))
      refine slv_iload_n eX8_product_45 rfl ?_
      refine slv_iload_n eX8_product_46 rfl ?_
      refine slv_ixor eX8_product_47 ?_
      refine slv_ldc eX8_product_48 kX8_22 ?_
      refine slv_iand eX8_product_50 ?_
      refine slv_istore_n (i := 2) (lv' := [_, _, _]) eX8_product_51 rfl (by decide) rfl ?_
      refine slv_iload_n eX8_product_52 rfl ?_
      refine slv_rS (As := [_]) eX8_product_53 lX8_27 rfl rfl hia (by decide) (Nat.le_of_ble_eq_true rfl) ?_
      refine slv_if_neB eX8_product_56 (fun h56 => ?_) (fun h56 => absurd h56 (by decide))
      refine slv_iload_n eX8_product_66 rfl ?_
      refine slv_ldc eX8_product_67 kX8_14 ?_
      refine slv_ior eX8_product_69 ?_
      refine slv_iret eX8_product_70 rfl ?_
      exact ⟨rfl, rfl⟩
  rw [decide_eq_false a2] at hia
  by_cases b2 : b.toUInt32.toNat % 2 ^ 31 = 2139095040
  · rw [decide_eq_true b2] at hib
    by_cases a0 : a.toUInt32.toNat % 2 ^ 31 = 0
    · rw [decide_eq_true a0] at hza
      rw [show FP.fmul a.toUInt32 b.toUInt32 = 2143289344 from fq_muln (Or.inr (Or.inr (Or.inr ⟨a0, b2⟩)))]
      refine slv_iload_n eX8_product_0 rfl ?_
      refine slv_rS (As := [_]) eX8_product_1 lX8_23 rfl rfl hna (by decide) (Nat.le_of_ble_eq_true rfl) ?_
      refine slv_if_neB eX8_product_4 (fun h4 => absurd h4 (by decide)) (fun h4 => ?_)
      refine slv_iload_n eX8_product_7 rfl ?_
      refine slv_rS (As := [_]) eX8_product_8 lX8_23 rfl rfl hnb (by decide) (Nat.le_of_ble_eq_true rfl) ?_
      refine slv_if_neB eX8_product_11 (fun h11 => absurd h11 (by decide)) (fun h11 => ?_)
      refine slv_iload_n eX8_product_14 rfl ?_
      refine slv_rS (As := [_]) eX8_product_15 lX8_27 rfl rfl hia (by decide) (Nat.le_of_ble_eq_true rfl) ?_
      refine slv_if_eqB eX8_product_18 (fun h18 => ?_) (fun h18 => absurd h18 (by decide))
      refine slv_iload_n eX8_product_28 rfl ?_
      refine slv_rS (As := [_]) eX8_product_29 lX8_35 rfl rfl hza (by decide) (Nat.le_of_ble_eq_true rfl) ?_
      refine slv_if_eqB eX8_product_32 (fun h32 => absurd h32 (by decide)) (fun h32 => ?_)
      refine slv_iload_n eX8_product_35 rfl ?_
      refine slv_rS (As := [_]) eX8_product_36 lX8_27 rfl rfl hib (by decide) (Nat.le_of_ble_eq_true rfl) ?_
      refine slv_if_eqB eX8_product_39 (fun h39 => absurd h39 (by decide)) (fun h39 => ?_)
      refine slv_ldc eX8_product_42 kX8_34 ?_
      refine slv_iret eX8_product_44 rfl ?_
      exact ⟨rfl, rfl⟩
    · rw [decide_eq_false a0] at hza
      rw [show FP.fmul a.toUInt32 b.toUInt32 = _ from fq_muli' b2 (by omega) a0]
      refine slv_iload_n eX8_product_0 rfl ?_
      refine slv_rS (As := [_]) eX8_product_1 lX8_23 rfl rfl hna (by decide) (Nat.le_of_ble_eq_true rfl) ?_
      refine slv_if_neB eX8_product_4 (fun h4 => absurd h4 (by decide)) (fun h4 => ?_)
      refine slv_iload_n eX8_product_7 rfl ?_
      refine slv_rS (As := [_]) eX8_product_8 lX8_23 rfl rfl hnb (by decide) (Nat.le_of_ble_eq_true rfl) ?_
      refine slv_if_neB eX8_product_11 (fun h11 => absurd h11 (by decide)) (fun h11 => ?_)
      refine slv_iload_n eX8_product_14 rfl ?_
      refine slv_rS (As := [_]) eX8_product_15 lX8_27 rfl rfl hia (by decide) (Nat.le_of_ble_eq_true rfl) ?_
      refine slv_if_eqB eX8_product_18 (fun h18 => ?_) (fun h18 => absurd h18 (by decide))
      refine slv_iload_n eX8_product_28 rfl ?_
      refine slv_rS (As := [_]) eX8_product_29 lX8_35 rfl rfl hza (by decide) (Nat.le_of_ble_eq_true rfl) ?_
      refine slv_if_eqB eX8_product_32 (fun h32 => ?_) (fun h32 => absurd h32 (by decide))
      refine slv_iload_n eX8_product_45 rfl ?_
      refine slv_iload_n eX8_product_46 rfl ?_
      refine slv_ixor eX8_product_47 ?_
      refine slv_ldc eX8_product_48 kX8_22 ?_
      refine slv_iand eX8_product_50 ?_
      refine slv_istore_n (i := 2) (lv' := [_, _, _]) eX8_product_51 rfl (by decide) rfl ?_
      refine slv_iload_n eX8_product_52 rfl ?_
      refine slv_rS (As := [_]) eX8_product_53 lX8_27 rfl rfl hia (by decide) (Nat.le_of_ble_eq_true rfl) ?_
      refine slv_if_neB eX8_product_56 (fun h56 => absurd h56 (by decide)) (fun h56 => ?_)
      refine slv_iload_n eX8_product_59 rfl ?_
      refine slv_rS (As := [_]) eX8_product_60 lX8_27 rfl rfl hib (by decide) (Nat.le_of_ble_eq_true rfl) ?_
      refine slv_if_eqB eX8_product_63 (fun h63 => absurd h63 (by decide)) (fun h63 => ?_)
      refine slv_iload_n eX8_product_66 rfl ?_
      refine slv_ldc eX8_product_67 kX8_14 ?_
      refine slv_ior eX8_product_69 ?_
      refine slv_iret eX8_product_70 rfl ?_
      exact ⟨rfl, rfl⟩
  rw [decide_eq_false b2] at hib
  have hfa := re_fl31 M (a := a) (by omega)
  have hfb := re_fl31 M (a := b) (by omega)
  obtain ⟨s1, s2⟩ := fq_mulf (a := a.toUInt32) (b := b.toUInt32) (by omega) (by omega)
  rw [show FP.fmul a.toUInt32 b.toUInt32 = _ from s2]
  have hnn : FP.Core.val32 (FP.Core.fmul (fq_abs a.toUInt32) (fq_abs b.toUInt32)) ≠ .nan := by
    rcases Nat.lt_or_ge (FP.Core.fmul (fq_abs a.toUInt32) (fq_abs b.toUInt32)).toNat 2139095040 with g | g
    · rw [fq_fin (by omega)]; exact fun z => by cases z
    · rw [fq_inf (by omega)]; exact fun z => by cases z
  have tail : sl_V YX8_product none 1 0 0 (fun r1 M1 => r1 = some (.int (((a.toUInt32 ^^^ b.toUInt32) &&& 2147483648) ||| FP.Core.fmul (fq_abs a.toUInt32) (fq_abs b.toUInt32)).toInt32) ∧ M1 = M) 71 [some (.int a), some (.int b), some (.int ((a ^^^ b) &&& -2147483648))] [] M := by
    refine slv_iload_n eX8_product_71 rfl ?_
    refine slv_iload_n eX8_product_72 rfl ?_
    refine slv_ldc eX8_product_73 kX8_11 ?_
    refine slv_iand eX8_product_75 ?_
    refine slv_rS (As := [_]) eX8_product_76 lX8_30 rfl rfl hfa (by decide) (Nat.le_of_ble_eq_true rfl) ?_
    refine slv_iload_n eX8_product_79 rfl ?_
    refine slv_ldc eX8_product_80 kX8_11 ?_
    refine slv_iand eX8_product_82 ?_
    refine slv_rS (As := [_]) eX8_product_83 lX8_30 rfl rfl hfb (by decide) (Nat.le_of_ble_eq_true rfl) ?_
    refine slv_fmul eX8_product_86 (fun r86 a86 => ?_)
    rw [re_al32 a86 hnn]
    refine slv_rS (As := [_]) eX8_product_87 lX8_18 rfl rfl (c_X8_bitsOf M s1) (by decide) (Nat.le_of_ble_eq_true rfl) ?_
    refine slv_ior eX8_product_90 ?_
    refine slv_iret eX8_product_91 rfl ?_
    exact ⟨rfl, rfl⟩
  by_cases a0 : a.toUInt32.toNat % 2 ^ 31 = 0
  · rw [decide_eq_true a0] at hza
    refine slv_iload_n eX8_product_0 rfl ?_
    refine slv_rS (As := [_]) eX8_product_1 lX8_23 rfl rfl hna (by decide) (Nat.le_of_ble_eq_true rfl) ?_
    refine slv_if_neB eX8_product_4 (fun h4 => absurd h4 (by decide)) (fun h4 => ?_)
    refine slv_iload_n eX8_product_7 rfl ?_
    refine slv_rS (As := [_]) eX8_product_8 lX8_23 rfl rfl hnb (by decide) (Nat.le_of_ble_eq_true rfl) ?_
    refine slv_if_neB eX8_product_11 (fun h11 => absurd h11 (by decide)) (fun h11 => ?_)
    refine slv_iload_n eX8_product_14 rfl ?_
    refine slv_rS (As := [_]) eX8_product_15 lX8_27 rfl rfl hia (by decide) (Nat.le_of_ble_eq_true rfl) ?_
    refine slv_if_eqB eX8_product_18 (fun h18 => ?_) (fun h18 => absurd h18 (by decide))
    refine slv_iload_n eX8_product_28 rfl ?_
    refine slv_rS (As := [_]) eX8_product_29 lX8_35 rfl rfl hza (by decide) (Nat.le_of_ble_eq_true rfl) ?_
    refine slv_if_eqB eX8_product_32 (fun h32 => absurd h32 (by decide)) (fun h32 => ?_)
    refine slv_iload_n eX8_product_35 rfl ?_
    refine slv_rS (As := [_]) eX8_product_36 lX8_27 rfl rfl hib (by decide) (Nat.le_of_ble_eq_true rfl) ?_
    refine slv_if_eqB eX8_product_39 (fun h39 => ?_) (fun h39 => absurd h39 (by decide))
    refine slv_iload_n eX8_product_45 rfl ?_
    refine slv_iload_n eX8_product_46 rfl ?_
    refine slv_ixor eX8_product_47 ?_
    refine slv_ldc eX8_product_48 kX8_22 ?_
    refine slv_iand eX8_product_50 ?_
    refine slv_istore_n (i := 2) (lv' := [_, _, _]) eX8_product_51 rfl (by decide) rfl ?_
    refine slv_iload_n eX8_product_52 rfl ?_
    refine slv_rS (As := [_]) eX8_product_53 lX8_27 rfl rfl hia (by decide) (Nat.le_of_ble_eq_true rfl) ?_
    refine slv_if_neB eX8_product_56 (fun h56 => absurd h56 (by decide)) (fun h56 => ?_)
    refine slv_iload_n eX8_product_59 rfl ?_
    refine slv_rS (As := [_]) eX8_product_60 lX8_27 rfl rfl hib (by decide) (Nat.le_of_ble_eq_true rfl) ?_
    refine slv_if_eqB eX8_product_63 (fun h63 => ?_) (fun h63 => absurd h63 (by decide))
    exact tail
  · rw [decide_eq_false a0] at hza
    refine slv_iload_n eX8_product_0 rfl ?_
    refine slv_rS (As := [_]) eX8_product_1 lX8_23 rfl rfl hna (by decide) (Nat.le_of_ble_eq_true rfl) ?_
    refine slv_if_neB eX8_product_4 (fun h4 => absurd h4 (by decide)) (fun h4 => ?_)
    refine slv_iload_n eX8_product_7 rfl ?_
    refine slv_rS (As := [_]) eX8_product_8 lX8_23 rfl rfl hnb (by decide) (Nat.le_of_ble_eq_true rfl) ?_
    refine slv_if_neB eX8_product_11 (fun h11 => absurd h11 (by decide)) (fun h11 => ?_)
    refine slv_iload_n eX8_product_14 rfl ?_
    refine slv_rS (As := [_]) eX8_product_15 lX8_27 rfl rfl hia (by decide) (Nat.le_of_ble_eq_true rfl) ?_
    refine slv_if_eqB eX8_product_18 (fun h18 => ?_) (fun h18 => absurd h18 (by decide))
    refine slv_iload_n eX8_product_28 rfl ?_
    refine slv_rS (As := [_]) eX8_product_29 lX8_35 rfl rfl hza (by decide) (Nat.le_of_ble_eq_true rfl) ?_
    refine slv_if_eqB eX8_product_32 (fun h32 => ?_) (fun h32 => absurd h32 (by decide))
    refine slv_iload_n eX8_product_45 rfl ?_
    refine slv_iload_n eX8_product_46 rfl ?_
    refine slv_ixor eX8_product_47 ?_
    refine slv_ldc eX8_product_48 kX8_22 ?_
    refine slv_iand eX8_product_50 ?_
    refine slv_istore_n (i := 2) (lv' := [_, _, _]) eX8_product_51 rfl (by decide) rfl ?_
    refine slv_iload_n eX8_product_52 rfl ?_
    refine slv_rS (As := [_]) eX8_product_53 lX8_27 rfl rfl hia (by decide) (Nat.le_of_ble_eq_true rfl) ?_
    refine slv_if_neB eX8_product_56 (fun h56 => absurd h56 (by decide)) (fun h56 => ?_)
    refine slv_iload_n eX8_product_59 rfl ?_
    refine slv_rS (As := [_]) eX8_product_60 lX8_27 rfl rfl hib (by decide) (Nat.le_of_ble_eq_true rfl) ?_
    refine slv_if_eqB eX8_product_63 (fun h63 => ?_) (fun h63 => absurd h63 (by decide))
    exact tail
set_option maxRecDepth 100000 in
theorem c_X8_quotient (M : sl_M) (a b : Int32) : sl_R YX8_quotient 1 [.int a, .int b] M (some (.int (FP.fdiv a.toUInt32 b.toUInt32).toInt32)) M := by
  refine sl_T.of_V (lv := [_, _, _]) (by decide) rfl (Nat.le_of_ble_eq_true rfl) ?_
  have hna := c_X8_isNoNumber M a
  have hnb := c_X8_isNoNumber M b
  have hia := c_X8_isInfinite M a
  have hib := c_X8_isInfinite M b
  have hza := c_X8_isZero M a
  have hzb := c_X8_isZero M b
  by_cases a1 : 2139095040 < a.toUInt32.toNat % 2 ^ 31
  · rw [decide_eq_true a1] at hna
    rw [show FP.fdiv a.toUInt32 b.toUInt32 = 2143289344 from fq_divn (Or.inl a1)]
    refine slv_iload_n eX8_quotient_0 rfl ?_
    refine slv_rS (As := [_]) eX8_quotient_1 lX8_23 rfl rfl hna (by decide) (Nat.le_of_ble_eq_true rfl) ?_
    refine slv_if_neB eX8_quotient_4 (fun h4 => ?_) (fun h4 => absurd h4 (by decide))
    refine slv_ldc eX8_quotient_42 kX8_34 ?_
    refine slv_iret eX8_quotient_44 rfl ?_
    exact ⟨rfl, rfl⟩
  rw [decide_eq_false a1] at hna
  by_cases b1 : 2139095040 < b.toUInt32.toNat % 2 ^ 31
  · rw [decide_eq_true b1] at hnb
    rw [show FP.fdiv a.toUInt32 b.toUInt32 = 2143289344 from fq_divn (Or.inr (Or.inl b1))]
    refine slv_iload_n eX8_quotient_0 rfl ?_
    refine slv_rS (As := [_]) eX8_quotient_1 lX8_23 rfl rfl hna (by decide) (Nat.le_of_ble_eq_true rfl) ?_
    refine slv_if_neB eX8_quotient_4 (fun h4 => absurd h4 (by decide)) (fun h4 => ?_)
    refine slv_iload_n eX8_quotient_7 rfl ?_
    refine slv_rS (As := [_]) eX8_quotient_8 lX8_23 rfl rfl hnb (by decide) (Nat.le_of_ble_eq_true rfl) ?_
    refine slv_if_neB eX8_quotient_11 (fun h11 => ?_) (fun h11 => absurd h11 (by decide))
    refine slv_ldc eX8_quotient_42 kX8_34 ?_
    refine slv_iret eX8_quotient_44 rfl ?_
    exact ⟨rfl, rfl⟩
  rw [decide_eq_false b1] at hnb
  by_cases a2 : a.toUInt32.toNat % 2 ^ 31 = 2139095040
  · rw [decide_eq_true a2] at hia
    rw [decide_eq_false (by omega)] at hza
    by_cases b2 : b.toUInt32.toNat % 2 ^ 31 = 2139095040
    · rw [decide_eq_true b2] at hib
      rw [show FP.fdiv a.toUInt32 b.toUInt32 = 2143289344 from fq_divn (Or.inr (Or.inr (Or.inl ⟨a2, b2⟩)))]
      refine slv_iload_n eX8_quotient_0 rfl ?_
      refine slv_rS (As := [_]) eX8_quotient_1 lX8_23 rfl rfl hna (by decide) (Nat.le_of_ble_eq_true rfl) ?_
      refine slv_if_neB eX8_quotient_4 (fun h4 => absurd h4 (by decide)) (fun h4 => ?_)
      refine slv_iload_n eX8_quotient_7 rfl ?_
      refine slv_rS (As := [_]) eX8_quotient_8 lX8_23 rfl rfl hnb (by decide) (Nat.le_of_ble_eq_true rfl) ?_
      refine slv_if_neB eX8_quotient_11 (fun h11 => absurd h11 (by decide)) (fun h11 => ?_)
      refine slv_iload_n eX8_quotient_14 rfl ?_
      refine slv_rS (As := [_]) eX8_quotient_15 lX8_27 rfl rfl hia (by decide) (Nat.le_of_ble_eq_true rfl) ?_
      refine slv_if_eqB eX8_quotient_18 (fun h18 => absurd h18 (by decide)) (fun h18 => ?_)
      refine slv_iload_n eX8_quotient_21 rfl ?_
      refine slv_rS (As := [_]) eX8_quotient_22 lX8_27 rfl rfl hib (by decide) (Nat.le_of_ble_eq_true rfl) ?_
      refine slv_if_neB eX8_quotient_25 (fun h25 => ?_) (fun h25 => absurd h25 (by decide))
      refine slv_ldc eX8_quotient_42 kX8_34 ?_
      refine slv_iret eX8_quotient_44 rfl ?_
      exact ⟨rfl, rfl⟩
    · rw [decide_eq_false b2] at hib
      rw [show FP.fdiv a.toUInt32 b.toUInt32 = _ from fq_divi (Or.inl ⟨a2, by omega⟩)]
      refine slv_iload_n eX8_quotient_0 rfl ?_
      refine slv_rS (As := [_]) eX8_quotient_1 lX8_23 rfl rfl hna (by decide) (Nat.le_of_ble_eq_true rfl) ?_
      refine slv_if_neB eX8_quotient_4 (fun h4 => absurd h4 (by decide)) (fun h4 => ?_)
      refine slv_iload_n eX8_quotient_7 rfl ?_
      refine slv_rS (As := [_]) eX8_quotient_8 lX8_23 rfl rfl hnb (by decide) (Nat.le_of_ble_eq_true rfl) ?_
      refine slv_if_neB eX8_quotient_11 (fun h11 => absurd h11 (by decide)) (fun h11 => ?_)
      refine slv_iload_n eX8_quotient_14 rfl ?_
      refine slv_rS (As := [_]) eX8_quotient_15 lX8_27 rfl rfl hia (by decide) (Nat.le_of_ble_eq_true rfl) ?_
      refine slv_if_eqB eX8_quotient_18 (fun h18 => absurd h18 (by decide)) (fun h18 => ?_)
      refine slv_iload_n eX8_quotient_21 rfl ?_
      refine slv_rS (As := [_]) eX8_quotient_22 lX8_27 rfl rfl hib (by decide) (Nat.le_of_ble_eq_true rfl) ?_
      refine slv_if_neB eX8_quotient_25 (fun h25 => absurd h25 (by decide)) (fun h25 => ?_)
      refine slv_iload_n eX8_quotient_28 rfl ?_
      refine slv_rS (As := [_]) eX8_quotient_29 lX8_35 rfl rfl hza (by decide) (Nat.le_of_ble_eq_true rfl) ?_
      refine slv_if_eqB eX8_quotient_32 (fun h32 => ?_) (fun h32 => absurd h32 (by decide))
      refine slv_iload_n eX8_quotient_45 rfl ?_
      refine slv_iload_n eX8_quotient_46 rfl ?_
      refine slv_ixor eX8_quotient_47 ?_
      refine slv_ldc eX8_quotient_48 kX8_22 ?_
      refine slv_iand eX8_quotient_50 ?_
      refine slv_istore_n (i := 2) (lv' := [_, _, _]) eX8_quotient_51 rfl (by decide) rfl ?_
      refine slv_iload_n eX8_quotient_52 rfl ?_
      refine slv_rS (As := [_]) eX8_quotient_53 lX8_27 rfl rfl hia (by decide) (Nat.le_of_ble_eq_true rfl) ?_
      refine slv_if_neB eX8_quotient_56 (fun h56 => ?_) (fun h56 => absurd h56 (by decide))
      refine slv_iload_n eX8_quotient_66 rfl ?_
      refine slv_ldc eX8_quotient_67 kX8_14 ?_
      refine slv_ior eX8_quotient_69 ?_
      refine slv_iret eX8_quotient_70 rfl ?_
      exact ⟨rfl, rfl⟩
  rw [decide_eq_false a2] at hia
  by_cases b0 : b.toUInt32.toNat % 2 ^ 31 = 0
  · rw [decide_eq_true b0] at hzb
    by_cases a0 : a.toUInt32.toNat % 2 ^ 31 = 0
    · rw [decide_eq_true a0] at hza
      rw [show FP.fdiv a.toUInt32 b.toUInt32 = 2143289344 from fq_divn (Or.inr (Or.inr (Or.inr ⟨a0, b0⟩)))]
      refine slv_iload_n eX8_quotient_0 rfl ?_
      refine slv_rS (As := [_]) eX8_quotient_1 lX8_23 rfl rfl hna (by decide) (Nat.le_of_ble_eq_true rfl) ?_
      refine slv_if_neB eX8_quotient_4 (fun h4 => absurd h4 (by decide)) (fun h4 => ?_)
      refine slv_iload_n eX8_quotient_7 rfl ?_
      refine slv_rS (As := [_]) eX8_quotient_8 lX8_23 rfl rfl hnb (by decide) (Nat.le_of_ble_eq_true rfl) ?_
      refine slv_if_neB eX8_quotient_11 (fun h11 => absurd h11 (by decide)) (fun h11 => ?_)
      refine slv_iload_n eX8_quotient_14 rfl ?_
      refine slv_rS (As := [_]) eX8_quotient_15 lX8_27 rfl rfl hia (by decide) (Nat.le_of_ble_eq_true rfl) ?_
      refine slv_if_eqB eX8_quotient_18 (fun h18 => ?_) (fun h18 => absurd h18 (by decide))
      refine slv_iload_n eX8_quotient_28 rfl ?_
      refine slv_rS (As := [_]) eX8_quotient_29 lX8_35 rfl rfl hza (by decide) (Nat.le_of_ble_eq_true rfl) ?_
      refine slv_if_eqB eX8_quotient_32 (fun h32 => absurd h32 (by decide)) (fun h32 => ?_)
      refine slv_iload_n eX8_quotient_35 rfl ?_
      refine slv_rS (As := [_]) eX8_quotient_36 lX8_35 rfl rfl hzb (by decide) (Nat.le_of_ble_eq_true rfl) ?_
      refine slv_if_eqB eX8_quotient_39 (fun h39 => absurd h39 (by decide)) (fun h39 => ?_)
      refine slv_ldc eX8_quotient_42 kX8_34 ?_
      refine slv_iret eX8_quotient_44 rfl ?_
      exact ⟨rfl, rfl⟩
    · rw [decide_eq_false a0] at hza
      rw [show FP.fdiv a.toUInt32 b.toUInt32 = _ from fq_divi (Or.inr ⟨by omega, a0, b0⟩)]
      refine slv_iload_n eX8_quotient_0 rfl ?_
      refine slv_rS (As := [_]) eX8_quotient_1 lX8_23 rfl rfl hna (by decide) (Nat.le_of_ble_eq_true rfl) ?_
      refine slv_if_neB eX8_quotient_4 (fun h4 => absurd h4 (by decide)) (fun h4 => ?_)
      refine slv_iload_n eX8_quotient_7 rfl ?_
      refine slv_rS (As := [_]) eX8_quotient_8 lX8_23 rfl rfl hnb (by decide) (Nat.le_of_ble_eq_true rfl) ?_
      refine slv_if_neB eX8_quotient_11 (fun h11 => absurd h11 (by decide)) (fun h11 => ?_)
      refine slv_iload_n eX8_quotient_14 rfl ?_
      refine slv_rS (As := [_]) eX8_quotient_15 lX8_27 rfl rfl hia (by decide) (Nat.le_of_ble_eq_true rfl) ?_
      refine slv_if_eqB eX8_quotient_18 (fun h18 => ?_) (fun h18 => absurd h18 (by decide))
      refine slv_iload_n eX8_quotient_28 rfl ?_
      refine slv_rS (As := [_]) eX8_quotient_29 lX8_35 rfl rfl hza (by decide) (Nat.le_of_ble_eq_true rfl) ?_
      refine slv_if_eqB eX8_quotient_32 (fun h32 => ?_) (fun h32 => absurd h32 (by decide))
      refine slv_iload_n eX8_quotient_45 rfl ?_
      refine slv_iload_n eX8_quotient_46 rfl ?_
      refine slv_ixor eX8_quotient_47 ?_
      refine slv_ldc eX8_quotient_48 kX8_22 ?_
      refine slv_iand eX8_quotient_50 ?_
      refine slv_istore_n (i := 2) (lv' := [_, _, _]) eX8_quotient_51 rfl (by decide) rfl ?_
      refine slv_iload_n eX8_quotient_52 rfl ?_
      refine slv_rS (As := [_]) eX8_quotient_53 lX8_27 rfl rfl hia (by decide) (Nat.le_of_ble_eq_true rfl) ?_
      refine slv_if_neB eX8_quotient_56 (fun h56 => absurd h56 (by decide)) (fun h56 => ?_)
      refine slv_iload_n eX8_quotient_59 rfl ?_
      refine slv_rS (As := [_]) eX8_quotient_60 lX8_35 rfl rfl hzb (by decide) (Nat.le_of_ble_eq_true rfl) ?_
      refine slv_if_eqB eX8_quotient_63 (fun h63 => absurd h63 (by decide)) (fun h63 => ?_)
      refine slv_iload_n eX8_quotient_66 rfl ?_
      refine slv_ldc eX8_quotient_67 kX8_14 ?_
      refine slv_ior eX8_quotient_69 ?_
      refine slv_iret eX8_quotient_70 rfl ?_
      exact ⟨rfl, rfl⟩
  rw [decide_eq_false b0] at hzb
  by_cases b2 : b.toUInt32.toNat % 2 ^ 31 = 2139095040
  · rw [decide_eq_true b2] at hib
    rw [show FP.fdiv a.toUInt32 b.toUInt32 = _ from fq_divz (Or.inl ⟨b2, by omega⟩)]
    by_cases a0 : a.toUInt32.toNat % 2 ^ 31 = 0
    · rw [decide_eq_true a0] at hza
      refine slv_iload_n eX8_quotient_0 rfl ?_
      refine slv_rS (As := [_]) eX8_quotient_1 lX8_23 rfl rfl hna (by decide) (Nat.le_of_ble_eq_true rfl) ?_
      refine slv_if_neB eX8_quotient_4 (fun h4 => absurd h4 (by decide)) (fun h4 => ?_)
      refine slv_iload_n eX8_quotient_7 rfl ?_
      refine slv_rS (As := [_]) eX8_quotient_8 lX8_23 rfl rfl hnb (by decide) (Nat.le_of_ble_eq_true rfl) ?_
      refine slv_if_neB eX8_quotient_11 (fun h11 => absurd h11 (by decide)) (fun h11 => ?_)
      refine slv_iload_n eX8_quotient_14 rfl ?_
      refine slv_rS (As := [_]) eX8_quotient_15 lX8_27 rfl rfl hia (by decide) (Nat.le_of_ble_eq_true rfl) ?_
      refine slv_if_eqB eX8_quotient_18 (fun h18 => ?_) (fun h18 => absurd h18 (by decide))
      refine slv_iload_n eX8_quotient_28 rfl ?_
      refine slv_rS (As := [_]) eX8_quotient_29 lX8_35 rfl rfl hza (by decide) (Nat.le_of_ble_eq_true rfl) ?_
      refine slv_if_eqB eX8_quotient_32 (fun h32 => absurd h32 (by decide)) (fun h32 => ?_)
      refine slv_iload_n eX8_quotient_35 rfl ?_
      refine slv_rS (As := [_]) eX8_quotient_36 lX8_35 rfl rfl hzb (by decide) (Nat.le_of_ble_eq_true rfl) ?_
      refine slv_if_eqB eX8_quotient_39 (fun h39 => ?_) (fun h39 => absurd h39 (by decide))
      refine slv_iload_n eX8_quotient_45 rfl ?_
      refine slv_iload_n eX8_quotient_46 rfl ?_
      refine slv_ixor eX8_quotient_47 ?_
      refine slv_ldc eX8_quotient_48 kX8_22 ?_
      refine slv_iand eX8_quotient_50 ?_
      refine slv_istore_n (i := 2) (lv' := [_, _, _]) eX8_quotient_51 rfl (by decide) rfl ?_
      refine slv_iload_n eX8_quotient_52 rfl ?_
      refine slv_rS (As := [_]) eX8_quotient_53 lX8_27 rfl rfl hia (by decide) (Nat.le_of_ble_eq_true rfl) ?_
      refine slv_if_neB eX8_quotient_56 (fun h56 => absurd h56 (by decide)) (fun h56 => ?_)
      refine slv_iload_n eX8_quotient_59 rfl ?_
      refine slv_rS (As := [_]) eX8_quotient_60 lX8_35 rfl rfl hzb (by decide) (Nat.le_of_ble_eq_true rfl) ?_
      refine slv_if_eqB eX8_quotient_63 (fun h63 => ?_) (fun h63 => absurd h63 (by decide))
      refine slv_iload_n eX8_quotient_71 rfl ?_
      refine slv_rS (As := [_]) eX8_quotient_72 lX8_27 rfl rfl hib (by decide) (Nat.le_of_ble_eq_true rfl) ?_
      refine slv_if_neB eX8_quotient_75 (fun h75 => ?_) (fun h75 => absurd h75 (by decide))
      refine slv_iload_n eX8_quotient_85 rfl ?_
      refine slv_iret eX8_quotient_86 rfl ?_
      exact ⟨rfl, rfl⟩
    · rw [decide_eq_false a0] at hza
      refine slv_iload_n eX8_quotient_0 rfl ?_
      refine slv_rS (As := [_]) eX8_quotient_1 lX8_23 rfl rfl hna (by decide) (Nat.le_of_ble_eq_true rfl) ?_
      refine slv_if_neB eX8_quotient_4 (fun h4 => absurd h4 (by decide)) (fun h4 => ?_)
      refine slv_iload_n eX8_quotient_7 rfl ?_
      refine slv_rS (As := [_]) eX8_quotient_8 lX8_23 rfl rfl hnb (by decide) (Nat.le_of_ble_eq_true rfl) ?_
      refine slv_if_neB eX8_quotient_11 (fun h11 => absurd h11 (by decide)) (fun h11 => ?_)
      refine slv_iload_n eX8_quotient_14 rfl ?_
      refine slv_rS (As := [_]) eX8_quotient_15 lX8_27 rfl rfl hia (by decide) (Nat.le_of_ble_eq_true rfl) ?_
      refine slv_if_eqB eX8_quotient_18 (fun h18 => ?_) (fun h18 => absurd h18 (by decide))
      refine slv_iload_n eX8_quotient_28 rfl ?_
      refine slv_rS (As := [_]) eX8_quotient_29 lX8_35 rfl rfl hza (by decide) (Nat.le_of_ble_eq_true rfl) ?_
      refine slv_if_eqB eX8_quotient_32 (fun h32 => ?_) (fun h32 => absurd h32 (by decide))
      refine slv_iload_n eX8_quotient_45 rfl ?_
      refine slv_iload_n eX8_quotient_46 rfl ?_
      refine slv_ixor eX8_quotient_47 ?_
      refine slv_ldc eX8_quotient_48 kX8_22 ?_
      refine slv_iand eX8_quotient_50 ?_
      refine slv_istore_n (i := 2) (lv' := [_, _, _]) eX8_quotient_51 rfl (by decide) rfl ?_
      refine slv_iload_n eX8_quotient_52 rfl ?_
      refine slv_rS (As := [_]) eX8_quotient_53 lX8_27 rfl rfl hia (by decide) (Nat.le_of_ble_eq_true rfl) ?_
      refine slv_if_neB eX8_quotient_56 (fun h56 => absurd h56 (by decide)) (fun h56 => ?_)
      refine slv_iload_n eX8_quotient_59 rfl ?_
      refine slv_rS (As := [_]) eX8_quotient_60 lX8_35 rfl rfl hzb (by decide) (Nat.le_of_ble_eq_true rfl) ?_
      refine slv_if_eqB eX8_quotient_63 (fun h63 => ?_) (fun h63 => absurd h63 (by decide))
      refine slv_iload_n eX8_quotient_71 rfl ?_
      refine slv_rS (As := [_]) eX8_quotient_72 lX8_27 rfl rfl hib (by decide) (Nat.le_of_ble_eq_true rfl) ?_
      refine slv_if_neB eX8_quotient_75 (fun h75 => ?_) (fun h75 => absurd h75 (by decide))
      refine slv_iload_n eX8_quotient_85 rfl ?_
      refine slv_iret eX8_quotient_86 rfl ?_
      exact ⟨rfl, rfl⟩
  rw [decide_eq_false b2] at hib
  by_cases a0 : a.toUInt32.toNat % 2 ^ 31 = 0
  · rw [decide_eq_true a0] at hza
    rw [show FP.fdiv a.toUInt32 b.toUInt32 = _ from fq_divz (Or.inr ⟨by omega, b0, a0⟩)]
    refine slv_iload_n eX8_quotient_0 rfl ?_
    refine slv_rS (As := [_]) eX8_quotient_1 lX8_23 rfl rfl hna (by decide) (Nat.le_of_ble_eq_true rfl) ?_
    refine slv_if_neB eX8_quotient_4 (fun h4 => absurd h4 (by decide)) (fun h4 => ?_)
    refine slv_iload_n eX8_quotient_7 rfl ?_
    refine slv_rS (As := [_]) eX8_quotient_8 lX8_23 rfl rfl hnb (by decide) (Nat.le_of_ble_eq_true rfl) ?_
    refine slv_if_neB eX8_quotient_11 (fun h11 => absurd h11 (by decide)) (fun h11 => ?_)
    refine slv_iload_n eX8_quotient_14 rfl ?_
    refine slv_rS (As := [_]) eX8_quotient_15 lX8_27 rfl rfl hia (by decide) (Nat.le_of_ble_eq_true rfl) ?_
    refine slv_if_eqB eX8_quotient_18 (fun h18 => ?_) (fun h18 => absurd h18 (by decide))
    refine slv_iload_n eX8_quotient_28 rfl ?_
    refine slv_rS (As := [_]) eX8_quotient_29 lX8_35 rfl rfl hza (by decide) (Nat.le_of_ble_eq_true rfl) ?_
    refine slv_if_eqB eX8_quotient_32 (fun h32 => absurd h32 (by decide)) (fun h32 => ?_)
    refine slv_iload_n eX8_quotient_35 rfl ?_
    refine slv_rS (As := [_]) eX8_quotient_36 lX8_35 rfl rfl hzb (by decide) (Nat.le_of_ble_eq_true rfl) ?_
    refine slv_if_eqB eX8_quotient_39 (fun h39 => ?_) (fun h39 => absurd h39 (by decide))
    refine slv_iload_n eX8_quotient_45 rfl ?_
    refine slv_iload_n eX8_quotient_46 rfl ?_
    refine slv_ixor eX8_quotient_47 ?_
    refine slv_ldc eX8_quotient_48 kX8_22 ?_
    refine slv_iand eX8_quotient_50 ?_
    refine slv_istore_n (i := 2) (lv' := [_, _, _]) eX8_quotient_51 rfl (by decide) rfl ?_
    refine slv_iload_n eX8_quotient_52 rfl ?_
    refine slv_rS (As := [_]) eX8_quotient_53 lX8_27 rfl rfl hia (by decide) (Nat.le_of_ble_eq_true rfl) ?_
    refine slv_if_neB eX8_quotient_56 (fun h56 => absurd h56 (by decide)) (fun h56 => ?_)
    refine slv_iload_n eX8_quotient_59 rfl ?_
    refine slv_rS (As := [_]) eX8_quotient_60 lX8_35 rfl rfl hzb (by decide) (Nat.le_of_ble_eq_true rfl) ?_
    refine slv_if_eqB eX8_quotient_63 (fun h63 => ?_) (fun h63 => absurd h63 (by decide))
    refine slv_iload_n eX8_quotient_71 rfl ?_
    refine slv_rS (As := [_]) eX8_quotient_72 lX8_27 rfl rfl hib (by decide) (Nat.le_of_ble_eq_true rfl) ?_
    refine slv_if_neB eX8_quotient_75 (fun h75 => absurd h75 (by decide)) (fun h75 => ?_)
    refine slv_iload_n eX8_quotient_78 rfl ?_
    refine slv_rS (As := [_]) eX8_quotient_79 lX8_35 rfl rfl hza (by decide) (Nat.le_of_ble_eq_true rfl) ?_
    refine slv_if_eqB eX8_quotient_82 (fun h82 => absurd h82 (by decide)) (fun h82 => ?_)
    refine slv_iload_n eX8_quotient_85 rfl ?_
    refine slv_iret eX8_quotient_86 rfl ?_
    exact ⟨rfl, rfl⟩
  rw [decide_eq_false a0] at hza
  have hfa := re_fl31 M (a := a) (by omega)
  have hfb := re_fl31 M (a := b) (by omega)
  obtain ⟨s1, s2⟩ := fq_divf (a := a.toUInt32) (b := b.toUInt32) (by omega) (by omega) b0
  rw [show FP.fdiv a.toUInt32 b.toUInt32 = _ from s2]
  have hnn : FP.Core.val32 (FP.Core.fdiv (fq_abs a.toUInt32) (fq_abs b.toUInt32)) ≠ .nan := by
    rcases Nat.lt_or_ge (FP.Core.fdiv (fq_abs a.toUInt32) (fq_abs b.toUInt32)).toNat 2139095040 with g | g
    · rw [fq_fin (by omega)]; exact fun z => by cases z
    · rw [fq_inf (by omega)]; exact fun z => by cases z
  refine slv_iload_n eX8_quotient_0 rfl ?_
  refine slv_rS (As := [_]) eX8_quotient_1 lX8_23 rfl rfl hna (by decide) (Nat.le_of_ble_eq_true rfl) ?_
  refine slv_if_neB eX8_quotient_4 (fun h4 => absurd h4 (by decide)) (fun h4 => ?_)
  refine slv_iload_n eX8_quotient_7 rfl ?_
  refine slv_rS (As := [_]) eX8_quotient_8 lX8_23 rfl rfl hnb (by decide) (Nat.le_of_ble_eq_true rfl) ?_
  refine slv_if_neB eX8_quotient_11 (fun h11 => absurd h11 (by decide)) (fun h11 => ?_)
  refine slv_iload_n eX8_quotient_14 rfl ?_
  refine slv_rS (As := [_]) eX8_quotient_15 lX8_27 rfl rfl hia (by decide) (Nat.le_of_ble_eq_true rfl) ?_
  refine slv_if_eqB eX8_quotient_18 (fun h18 => ?_) (fun h18 => absurd h18 (by decide))
  refine slv_iload_n eX8_quotient_28 rfl ?_
  refine slv_rS (As := [_]) eX8_quotient_29 lX8_35 rfl rfl hza (by decide) (Nat.le_of_ble_eq_true rfl) ?_
  refine slv_if_eqB eX8_quotient_32 (fun h32 => ?_) (fun h32 => absurd h32 (by decide))
  refine slv_iload_n eX8_quotient_45 rfl ?_
  refine slv_iload_n eX8_quotient_46 rfl ?_
  refine slv_ixor eX8_quotient_47 ?_
  refine slv_ldc eX8_quotient_48 kX8_22 ?_
  refine slv_iand eX8_quotient_50 ?_
  refine slv_istore_n (i := 2) (lv' := [_, _, _]) eX8_quotient_51 rfl (by decide) rfl ?_
  refine slv_iload_n eX8_quotient_52 rfl ?_
  refine slv_rS (As := [_]) eX8_quotient_53 lX8_27 rfl rfl hia (by decide) (Nat.le_of_ble_eq_true rfl) ?_
  refine slv_if_neB eX8_quotient_56 (fun h56 => absurd h56 (by decide)) (fun h56 => ?_)
  refine slv_iload_n eX8_quotient_59 rfl ?_
  refine slv_rS (As := [_]) eX8_quotient_60 lX8_35 rfl rfl hzb (by decide) (Nat.le_of_ble_eq_true rfl) ?_
  refine slv_if_eqB eX8_quotient_63 (fun h63 => ?_) (fun h63 => absurd h63 (by decide))
  refine slv_iload_n eX8_quotient_71 rfl ?_
  refine slv_rS (As := [_]) eX8_quotient_72 lX8_27 rfl rfl hib (by decide) (Nat.le_of_ble_eq_true rfl) ?_
  refine slv_if_neB eX8_quotient_75 (fun h75 => absurd h75 (by decide)) (fun h75 => ?_)
  refine slv_iload_n eX8_quotient_78 rfl ?_
  refine slv_rS (As := [_]) eX8_quotient_79 lX8_35 rfl rfl hza (by decide) (Nat.le_of_ble_eq_true rfl) ?_
  refine slv_if_eqB eX8_quotient_82 (fun h82 => ?_) (fun h82 => absurd h82 (by decide))
  refine slv_iload_n eX8_quotient_87 rfl ?_
  refine slv_iload_n eX8_quotient_88 rfl ?_
  refine slv_ldc eX8_quotient_89 kX8_11 ?_
  refine slv_iand eX8_quotient_91 ?_
  refine slv_rS (As := [_]) eX8_quotient_92 lX8_30 rfl rfl hfa (by decide) (Nat.le_of_ble_eq_true rfl) ?_
  refine slv_iload_n eX8_quotient_95 rfl ?_
  refine slv_ldc eX8_quotient_96 kX8_11 ?_
  refine slv_iand eX8_quotient_98 ?_
  refine slv_rS (As := [_]) eX8_quotient_99 lX8_30 rfl rfl hfb (by decide) (Nat.le_of_ble_eq_true rfl) ?_
  refine slv_fdiv eX8_quotient_102 (fun r102 a102 => ?_)
  rw [re_al32 a102 hnn]
  refine slv_rS (As := [_]) eX8_quotient_103 lX8_18 rfl rfl (c_X8_bitsOf M s1) (by decide) (Nat.le_of_ble_eq_true rfl) ?_
  refine slv_ior eX8_quotient_106 ?_
  refine slv_iret eX8_quotient_107 rfl ?_
  exact ⟨rfl, rfl⟩
end REG
