/-! the class's floats (X8): wholes, digits, thirds; rr_all -/
section REH
set_option maxRecDepth 100000 in
theorem c_X8_toWhole (M : sl_M) (a : Int32) : sl_R YX8_toWhole 1 [.int a] M (some (.int (FP.f2i a.toUInt32))) M := by
  refine sl_T.of_V (lv := [_]) (by decide) rfl (Nat.le_of_ble_eq_true rfl) ?_
  have hna := c_X8_isNoNumber M a
  have hia := c_X8_isInfinite M a
  by_cases a1 : 2139095040 < a.toUInt32.toNat % 2 ^ 31
  · rw [decide_eq_true a1] at hna
    have e : FP.f2i a.toUInt32 = 0 := by
      show Int32.ofInt (FP.Core.toInt (-2 ^ 31) (2 ^ 31 - 1) (FP.Core.val32 a.toUInt32)) = 0
      rw [fq_nan a1]
      rfl
    rw [e]
    refine slv_iload_n eX8_toWhole_0 rfl ?_
    refine slv_rS (As := [_]) eX8_toWhole_1 lX8_23 rfl rfl hna (by decide) (Nat.le_of_ble_eq_true rfl) ?_
    refine slv_if_eqB eX8_toWhole_4 (fun h4 => absurd h4 (by decide)) (fun h4 => ?_)
    refine slv_iconst (v := nI 0) eX8_toWhole_7 (by decide) ?_
    refine slv_iret eX8_toWhole_8 rfl ?_
    exact ⟨rfl, rfl⟩
  rw [decide_eq_false a1] at hna
  by_cases a2 : a.toUInt32.toNat % 2 ^ 31 = 2139095040
  · rw [decide_eq_true a2] at hia
    have e : FP.f2i a.toUInt32 = Int32.ofInt (FP.Core.toInt (-2 ^ 31) (2 ^ 31 - 1) (.inf (decide (2 ^ 31 ≤ a.toUInt32.toNat)))) := by
      show Int32.ofInt (FP.Core.toInt (-2 ^ 31) (2 ^ 31 - 1) (FP.Core.val32 a.toUInt32)) = _
      rw [fq_inf a2]
    by_cases hs : 0 ≤ a
    · have h1 := (re_sg a).mp hs
      rw [e, decide_eq_false (by omega)]
      refine slv_iload_n eX8_toWhole_0 rfl ?_
      refine slv_rS (As := [_]) eX8_toWhole_1 lX8_23 rfl rfl hna (by decide) (Nat.le_of_ble_eq_true rfl) ?_
      refine slv_if_eqB eX8_toWhole_4 (fun h4 => ?_) (fun h4 => absurd h4 (by decide))
      refine slv_iload_n eX8_toWhole_9 rfl ?_
      refine slv_rS (As := [_]) eX8_toWhole_10 lX8_27 rfl rfl hia (by decide) (Nat.le_of_ble_eq_true rfl) ?_
      refine slv_if_eqB eX8_toWhole_13 (fun h13 => absurd h13 (by decide)) (fun h13 => ?_)
      refine slv_iload_n eX8_toWhole_16 rfl ?_
      refine slv_if_ge eX8_toWhole_17 (fun h17 => ?_) (fun h17 => absurd hs h17)
      refine slv_ldc eX8_toWhole_25 kX8_11 ?_
      refine slv_iret eX8_toWhole_27 rfl ?_
      exact ⟨rfl, rfl⟩
    · have h1 : 2 ^ 31 ≤ a.toUInt32.toNat := Nat.le_of_not_lt (fun z => hs ((re_sg a).mpr z))
      rw [e, decide_eq_true h1]
      refine slv_iload_n eX8_toWhole_0 rfl ?_
      refine slv_rS (As := [_]) eX8_toWhole_1 lX8_23 rfl rfl hna (by decide) (Nat.le_of_ble_eq_true rfl) ?_
      refine slv_if_eqB eX8_toWhole_4 (fun h4 => ?_) (fun h4 => absurd h4 (by decide))
      refine slv_iload_n eX8_toWhole_9 rfl ?_
      refine slv_rS (As := [_]) eX8_toWhole_10 lX8_27 rfl rfl hia (by decide) (Nat.le_of_ble_eq_true rfl) ?_
      refine slv_if_eqB eX8_toWhole_13 (fun h13 => absurd h13 (by decide)) (fun h13 => ?_)
      refine slv_iload_n eX8_toWhole_16 rfl ?_
      refine slv_if_ge eX8_toWhole_17 (fun h17 => absurd h17 hs) (fun h17 => ?_)
      refine slv_ldc eX8_toWhole_20 kX8_22 ?_
      refine slv_goto eX8_toWhole_22 ?_
      refine slv_iret eX8_toWhole_27 rfl ?_
      exact ⟨rfl, rfl⟩
  rw [decide_eq_false a2] at hia
  have hfa := c_X8_floatOf M (a := a) (by omega)
  have e : FP.f2i (fq_g a.toUInt32) = FP.f2i a.toUInt32 := by
    unfold fq_g
    split
    · rename_i h
      rw [h]
      decide +kernel
    · rfl
  refine slv_iload_n eX8_toWhole_0 rfl ?_
  refine slv_rS (As := [_]) eX8_toWhole_1 lX8_23 rfl rfl hna (by decide) (Nat.le_of_ble_eq_true rfl) ?_
  refine slv_if_eqB eX8_toWhole_4 (fun h4 => ?_) (fun h4 => absurd h4 (by decide))
  refine slv_iload_n eX8_toWhole_9 rfl ?_
  refine slv_rS (As := [_]) eX8_toWhole_10 lX8_27 rfl rfl hia (by decide) (Nat.le_of_ble_eq_true rfl) ?_
  refine slv_if_eqB eX8_toWhole_13 (fun h13 => ?_) (fun h13 => absurd h13 (by decide))
  refine slv_iload_n eX8_toWhole_28 rfl ?_
  refine slv_rS (As := [_]) eX8_toWhole_29 lX8_30 rfl rfl hfa (by decide) (Nat.le_of_ble_eq_true rfl) ?_
  refine slv_f2i eX8_toWhole_32 ?_
  refine slv_iret eX8_toWhole_33 rfl ?_
  rw [e]
  exact ⟨rfl, rfl⟩
set_option maxRecDepth 100000 in
theorem c_X8_ofWhole (M : sl_M) (a : Int32) : sl_R YX8_ofWhole 1 [.int a] M (some (.int (FP.i2f a).toInt32)) M := by
  refine sl_T.of_V (lv := [_, _]) (by decide) rfl (Nat.le_of_ble_eq_true rfl) ?_
  obtain ⟨h1, h2⟩ := fq_i2f_nz a
  have h1' : FP.i2f a ≠ 2147483648 := h1
  have h2' : (FP.i2f a).toNat % 2 ^ 31 < 2139095040 := h2
  obtain ⟨f, hf⟩ : ∃ f, f = FP.i2f a := ⟨_, rfl⟩
  rw [← hf] at h1' h2' ⊢
  have tail : sl_V YX8_ofWhole none 1 0 0 (fun r1 M1 => r1 = some (.int f.toInt32) ∧ M1 = M) 3 [some (.int a), some (.float f)] [] M := by
    by_cases hs : 2 ^ 31 ≤ f.toNat
    · have hz : f.toNat % 2 ^ 31 ≠ 0 := by
        intro z
        apply h1'
        apply UInt32.toNat_inj.mp
        have := f.toNat_lt
        show f.toNat = 2 ^ 31
        omega
      have hg := re_gn (by omega) hz hs
      refine slv_fload_n eX8_ofWhole_3 rfl ?_
      refine slv_fconst0 eX8_ofWhole_4 ?_
      refine slv_fcmp eX8_ofWhole_5 ?_
      refine slv_if_ge eX8_ofWhole_6 (fun h6 => absurd h6 hg) (fun h6 => ?_)
      refine slv_fconst0 eX8_ofWhole_9 ?_
      refine slv_fload_n eX8_ofWhole_10 rfl ?_
      refine slv_fsub eX8_ofWhole_11 (fun r11 a11 => ?_)
      rw [re_fsub (by omega) (by omega) a11]
      refine slv_rS (As := [_]) eX8_ofWhole_12 lX8_18 rfl rfl (c_X8_bitsOf M (f := fq_abs f) (by rw [fq_absn]; omega)) (by decide) (Nat.le_of_ble_eq_true rfl) ?_
      refine slv_ldc eX8_ofWhole_15 kX8_22 ?_
      refine slv_ior eX8_ofWhole_17 ?_
      refine slv_goto eX8_ofWhole_18 ?_
      refine slv_iret eX8_ofWhole_25 rfl ?_
      rw [re_sgn hs (by omega)]
      exact ⟨rfl, rfl⟩
    · have hg := re_gp (f := f) (by omega) hs
      refine slv_fload_n eX8_ofWhole_3 rfl ?_
      refine slv_fconst0 eX8_ofWhole_4 ?_
      refine slv_fcmp eX8_ofWhole_5 ?_
      refine slv_if_ge eX8_ofWhole_6 (fun h6 => ?_) (fun h6 => absurd hg h6)
      refine slv_fload_n eX8_ofWhole_21 rfl ?_
      refine slv_rS (As := [_]) eX8_ofWhole_22 lX8_18 rfl rfl (c_X8_bitsOf M (f := f) (by omega)) (by decide) (Nat.le_of_ble_eq_true rfl) ?_
      refine slv_iret eX8_ofWhole_25 rfl ?_
      exact ⟨rfl, rfl⟩
  refine slv_iload_n eX8_ofWhole_0 rfl ?_
  refine slv_i2f eX8_ofWhole_1 ?_
  refine slv_fstore_n (i := 1) (lv' := [_, _]) eX8_ofWhole_2 rfl (by decide) rfl ?_
  rw [← hf]
  exact tail
theorem re_dig3 {d p : Nat} (hd : d < 10000000) : (FP.fdiv (FP.i2f (nI d)) (rr_ten p)).toNat ≤ 2139095040 := by
  have e : (nI d).toInt = (d : Int) := Int32.toInt_ofNat_of_lt (by omega)
  have hv : ∃ c q, FP.Core.val32 (FP.Core.i2f (nI d)) = .fin false c q := by
    have hf := (FP.Core.fin_bits32 (FP.Core.i2f (nI d))).mp (FP.Core.i2f_fin (nI d))
    have h := FP.Core.val32_i2f (nI d)
    have h2 : FP.Core.ofInt (nI d).toInt = .fin false d 0 := by
      rw [e]
      show FP.Core.Datum.fin (decide ((d : Int) < 0)) (d : Int).natAbs 0 = _
      rw [decide_eq_false (by omega), Int.natAbs_natCast]
    rw [h2] at h
    have hp := fq_pos (x := FP.Core.i2f (nI d)) (A := d) (B := 1) (e := 0) h
    have hw := fq_fin hf
    rw [decide_eq_false (by omega)] at hw
    exact ⟨_, _, hw⟩
  obtain ⟨c, q, hv⟩ := hv
  have ht : ∃ c' q', FP.Core.val32 (rr_ten p) = .fin false c' q' ∧ c' ≠ 0 := by
    unfold rr_ten
    split
    · exact ⟨10485760, -20, by decide +kernel, by decide⟩
    · split
      · exact ⟨13107200, -17, by decide +kernel, by decide⟩
      · exact ⟨16384000, -14, by decide +kernel, by decide⟩
  obtain ⟨c', q', ht, hc⟩ := ht
  have hq := FP.Core.val32_fdiv (FP.Core.i2f (nI d)) (rr_ten p)
  rw [hv, ht, FP.Core.quotient, if_neg hc] at hq
  exact fq_pos (x := FP.Core.fdiv (FP.Core.i2f (nI d)) (rr_ten p)) (A := c) (B := c') (e := q - q') hq
theorem re_nn {f : UInt32} (h : f.toNat ≤ 2139095040) : FP.Core.val32 f ≠ .nan := by
  rcases Nat.lt_or_ge f.toNat 2139095040 with g | g
  · rw [fq_fin (by omega)]; exact fun z => by cases z
  · rw [fq_inf (by omega)]; exact fun z => by cases z
set_option maxRecDepth 100000 in
theorem c_X8_ofDigits (M : sl_M) (d p : Nat) (hd : d < 10000000) (h1 : 1 ≤ p) (h3 : p ≤ 3) : sl_R YX8_ofDigits 1 [.int (nI d), .int (nI p)] M (some (.int (FP.fdiv (FP.i2f (nI d)) (rr_ten p)).toInt32)) M := by
  refine sl_T.of_V (lv := [_, _, _]) (by decide) rfl (Nat.le_of_ble_eq_true rfl) ?_
  have hb := re_dig3 (p := p) hd
  have hn := re_nn hb
  rcases (show p = 1 ∨ p = 2 ∨ p = 3 by omega) with rfl | rfl | rfl
  · refine slv_iload_n eX8_ofDigits_0 rfl ?_
    refine slv_iconst (v := nI 1) eX8_ofDigits_1 (by decide) ?_
    refine slv_icmp_ne eX8_ofDigits_2 (fun h2 => absurd rfl h2) (fun h2 => ?_)
    refine slv_ldcf eX8_ofDigits_5 kX8_15 ?_
    refine slv_goto eX8_ofDigits_7 ?_
    refine slv_fstore_n (i := 2) (lv' := [_, _, _]) eX8_ofDigits_22 rfl (by decide) rfl ?_
    refine slv_iload_n eX8_ofDigits_23 rfl ?_
    refine slv_i2f eX8_ofDigits_24 ?_
    refine slv_fload_n eX8_ofDigits_25 rfl ?_
    refine slv_fdiv eX8_ofDigits_26 (fun r26 a26 => ?_)
    rw [re_al32 (y := FP.fdiv (FP.i2f (nI d)) (rr_ten 1)) a26 hn]
    refine slv_rS (As := [_]) eX8_ofDigits_27 lX8_18 rfl rfl (c_X8_bitsOf M hb) (by decide) (Nat.le_of_ble_eq_true rfl) ?_
    refine slv_iret eX8_ofDigits_30 rfl ?_
    exact ⟨rfl, rfl⟩
  · refine slv_iload_n eX8_ofDigits_0 rfl ?_
    refine slv_iconst (v := nI 1) eX8_ofDigits_1 (by decide) ?_
    refine slv_icmp_ne eX8_ofDigits_2 (fun h2 => ?_) (fun h2 => absurd h2 (by decide))
    refine slv_iload_n eX8_ofDigits_10 rfl ?_
    refine slv_iconst (v := nI 2) eX8_ofDigits_11 (by decide) ?_
    refine slv_icmp_ne eX8_ofDigits_12 (fun h12 => absurd rfl h12) (fun h12 => ?_)
    refine slv_ldcf eX8_ofDigits_15 kX8_16 ?_
    refine slv_goto eX8_ofDigits_17 ?_
    refine slv_fstore_n (i := 2) (lv' := [_, _, _]) eX8_ofDigits_22 rfl (by decide) rfl ?_
    refine slv_iload_n eX8_ofDigits_23 rfl ?_
    refine slv_i2f eX8_ofDigits_24 ?_
    refine slv_fload_n eX8_ofDigits_25 rfl ?_
    refine slv_fdiv eX8_ofDigits_26 (fun r26 a26 => ?_)
    rw [re_al32 (y := FP.fdiv (FP.i2f (nI d)) (rr_ten 2)) a26 hn]
    refine slv_rS (As := [_]) eX8_ofDigits_27 lX8_18 rfl rfl (c_X8_bitsOf M hb) (by decide) (Nat.le_of_ble_eq_true rfl) ?_
    refine slv_iret eX8_ofDigits_30 rfl ?_
    exact ⟨rfl, rfl⟩
  · refine slv_iload_n eX8_ofDigits_0 rfl ?_
    refine slv_iconst (v := nI 1) eX8_ofDigits_1 (by decide) ?_
    refine slv_icmp_ne eX8_ofDigits_2 (fun h2 => ?_) (fun h2 => absurd h2 (by decide))
    refine slv_iload_n eX8_ofDigits_10 rfl ?_
    refine slv_iconst (v := nI 2) eX8_ofDigits_11 (by decide) ?_
    refine slv_icmp_ne eX8_ofDigits_12 (fun h12 => ?_) (fun h12 => absurd h12 (by decide))
    refine slv_ldcf eX8_ofDigits_20 kX8_17 ?_
    refine slv_fstore_n (i := 2) (lv' := [_, _, _]) eX8_ofDigits_22 rfl (by decide) rfl ?_
    refine slv_iload_n eX8_ofDigits_23 rfl ?_
    refine slv_i2f eX8_ofDigits_24 ?_
    refine slv_fload_n eX8_ofDigits_25 rfl ?_
    refine slv_fdiv eX8_ofDigits_26 (fun r26 a26 => ?_)
    rw [re_al32 (y := FP.fdiv (FP.i2f (nI d)) (rr_ten 3)) a26 hn]
    refine slv_rS (As := [_]) eX8_ofDigits_27 lX8_18 rfl rfl (c_X8_bitsOf M hb) (by decide) (Nat.le_of_ble_eq_true rfl) ?_
    refine slv_iret eX8_ofDigits_30 rfl ?_
    exact ⟨rfl, rfl⟩
theorem re_dn {x : UInt64} {s : Bool} {c : Nat} {q : Int} (h : FP.Core.val64 x = .fin s c q) : FP.Core.val64 x ≠ .nan := by
  rw [h]; exact fun z => by cases z
set_option maxRecDepth 100000 in
theorem c_X8_thirdOfWhole (M : sl_M) (a : Int32) : sl_R YX8_thirdOfWhole 1 [.int a] M (some (.long (FP.ddiv (FP.i2d a) 4613937818241073152).toInt64)) M := by
  refine sl_T.of_V (lv := [_, _, _]) (by decide) rfl (Nat.le_of_ble_eq_true rfl) ?_
  by_cases h0 : a.toInt = 0
  · have ha : a = 0 := Int32.toInt_inj.mp h0
    subst ha
    have e : FP.ddiv (FP.i2d 0) 4613937818241073152 = 0 := dq_w0
    have hc : 0 ≤ Op.cmpValue (FP.dcmp 0 FP.dconst0) .g := by decide +kernel
    rw [e]
    refine slv_iload_n eX8_thirdOfWhole_0 rfl ?_
    refine slv_i2d eX8_thirdOfWhole_1 ?_
    refine slv_ldc2d eX8_thirdOfWhole_2 kX8_47 ?_
    refine slv_ddiv eX8_thirdOfWhole_5 (fun r5 a5 => ?_)
    rw [e] at a5
    rw [re_al64 a5 (re_dn dq_z0)]
    refine slv_dstore_n (i := 1) (lv' := [_, _, _]) eX8_thirdOfWhole_6 rfl (by decide) rfl ?_
    refine slv_dload_n eX8_thirdOfWhole_7 rfl ?_
    refine slv_dconst0 eX8_thirdOfWhole_8 ?_
    refine slv_dcmp eX8_thirdOfWhole_9 ?_
    refine slv_if_ge eX8_thirdOfWhole_10 (fun h10 => ?_) (fun h10 => absurd hc h10)
    refine slv_dload_n eX8_thirdOfWhole_26 rfl ?_
    refine slv_rS (As := [_]) eX8_thirdOfWhole_27 lX8_49 rfl rfl (c_X8_longBits0 M) (by decide) (Nat.le_of_ble_eq_true rfl) ?_
    refine slv_lret eX8_thirdOfWhole_30 rfl ?_
    exact ⟨rfl, rfl⟩
  · obtain ⟨c, q, v1, v2, v3, v4, v5⟩ := dq_w3 h0
    obtain ⟨x, hx⟩ : ∃ x, x = FP.ddiv (FP.i2d a) 4613937818241073152 := ⟨_, rfl⟩
    have w1 : FP.Core.val64 x = .fin (decide (a.toInt < 0)) c q := by rw [hx]; exact v1
    rw [← hx]
    by_cases hs : a.toInt < 0
    · rw [decide_eq_true hs] at w1
      have hc : ¬ 0 ≤ Op.cmpValue (FP.dcmp x FP.dconst0) .g := by
        rw [show FP.dcmp x FP.dconst0 = some (if c = 0 then .eq else if (true : Bool) = true then .lt else .gt) from dq_cmp0 w1, if_neg (by omega)]
        show ¬ (0 : Int32) ≤ -1
        decide
      have hn : FP.Core.val64 (FP.dsub FP.dconst0 x) = .fin false c q := dq_0sub w1 (by omega)
      have hor : (FP.dsub FP.dconst0 x).toInt64 ||| -9223372036854775808 = x.toInt64 := by
        have := dq_neg hn w1 v2
        conv => rhs; rw [this]
        rfl
      refine slv_iload_n eX8_thirdOfWhole_0 rfl ?_
      refine slv_i2d eX8_thirdOfWhole_1 ?_
      refine slv_ldc2d eX8_thirdOfWhole_2 kX8_47 ?_
      refine slv_ddiv eX8_thirdOfWhole_5 (fun r5 a5 => ?_)
      rw [← hx] at a5
      rw [re_al64 a5 (re_dn w1)]
      refine slv_dstore_n (i := 1) (lv' := [_, _, _]) eX8_thirdOfWhole_6 rfl (by decide) rfl ?_
      refine slv_dload_n eX8_thirdOfWhole_7 rfl ?_
      refine slv_dconst0 eX8_thirdOfWhole_8 ?_
      refine slv_dcmp eX8_thirdOfWhole_9 ?_
      refine slv_if_ge eX8_thirdOfWhole_10 (fun h10 => absurd h10 hc) (fun h10 => ?_)
      refine slv_dconst0 eX8_thirdOfWhole_13 ?_
      refine slv_dload_n eX8_thirdOfWhole_14 rfl ?_
      refine slv_dsub eX8_thirdOfWhole_15 (fun r15 a15 => ?_)
      rw [re_al64 a15 (re_dn hn)]
      refine slv_rS (As := [_]) eX8_thirdOfWhole_16 lX8_49 rfl rfl (c_X8_longBitsOf M hn v2 v3 v4 v5) (by decide) (Nat.le_of_ble_eq_true rfl) ?_
      refine slv_ldc2 eX8_thirdOfWhole_19 kX8_53 ?_
      refine slv_lor eX8_thirdOfWhole_22 ?_
      refine slv_goto eX8_thirdOfWhole_23 ?_
      refine slv_lret eX8_thirdOfWhole_30 rfl ?_
      rw [hor]
      exact ⟨rfl, rfl⟩
    · rw [decide_eq_false hs] at w1
      have hc : 0 ≤ Op.cmpValue (FP.dcmp x FP.dconst0) .g := by
        rw [show FP.dcmp x FP.dconst0 = some (if c = 0 then .eq else if (false : Bool) = true then .lt else .gt) from dq_cmp0 w1, if_neg (by omega)]
        show (0 : Int32) ≤ 1
        decide
      refine slv_iload_n eX8_thirdOfWhole_0 rfl ?_
      refine slv_i2d eX8_thirdOfWhole_1 ?_
      refine slv_ldc2d eX8_thirdOfWhole_2 kX8_47 ?_
      refine slv_ddiv eX8_thirdOfWhole_5 (fun r5 a5 => ?_)
      rw [← hx] at a5
      rw [re_al64 a5 (re_dn w1)]
      refine slv_dstore_n (i := 1) (lv' := [_, _, _]) eX8_thirdOfWhole_6 rfl (by decide) rfl ?_
      refine slv_dload_n eX8_thirdOfWhole_7 rfl ?_
      refine slv_dconst0 eX8_thirdOfWhole_8 ?_
      refine slv_dcmp eX8_thirdOfWhole_9 ?_
      refine slv_if_ge eX8_thirdOfWhole_10 (fun h10 => ?_) (fun h10 => absurd hc h10)
      refine slv_dload_n eX8_thirdOfWhole_26 rfl ?_
      refine slv_rS (As := [_]) eX8_thirdOfWhole_27 lX8_49 rfl rfl (c_X8_longBitsOf M w1 v2 v3 v4 v5) (by decide) (Nat.le_of_ble_eq_true rfl) ?_
      refine slv_lret eX8_thirdOfWhole_30 rfl ?_
      exact ⟨rfl, rfl⟩
theorem re_sg64 (a : Int32) : (if 2 ^ 31 ≤ a.toUInt32.toNat then (9223372036854775808 : UInt64) else 0) = if 0 ≤ a then 0 else 9223372036854775808 := by
  by_cases h : 0 ≤ a
  · have := (re_sg a).mp h
    rw [if_pos h, if_neg (by omega)]
  · have : 2 ^ 31 ≤ a.toUInt32.toNat := Nat.le_of_not_lt (fun z => h ((re_sg a).mpr z))
    rw [if_neg h, if_pos this]
set_option maxRecDepth 100000 in
theorem c_X8_thirdOfReal (M : sl_M) (a : Int32) : sl_R YX8_thirdOfReal 1 [.int a] M (some (.long (FP.ddiv (FP.f2d a.toUInt32) 4613937818241073152).toInt64)) M := by
  refine sl_T.of_V (lv := [_, _, _]) (by decide) rfl (Nat.le_of_ble_eq_true rfl) ?_
  have hna := c_X8_isNoNumber M a
  have hia := c_X8_isInfinite M a
  by_cases a1 : 2139095040 < a.toUInt32.toNat % 2 ^ 31
  · rw [decide_eq_true a1] at hna
    have e : FP.ddiv (FP.f2d a.toUInt32) 4613937818241073152 = 9221120237041090560 := by
      rw [← dq_of64n]
      show FP.Core.of64 (FP.Core.quotient FP.Core.b64 (FP.Core.val64 (FP.f2d a.toUInt32)) (FP.Core.val64 4613937818241073152)) = _
      have hn : FP.Core.val64 (FP.f2d a.toUInt32) = .nan := by
        rw [← FP.Core.dIsNaN_iff, show FP.Core.dIsNaN (FP.f2d a.toUInt32) = FP.Core.fIsNaN a.toUInt32 from FP.f2d_nan a.toUInt32, FP.Core.fIsNaN_iff]
        exact fq_nan a1
      rw [hn]
      rfl
    rw [e]
    refine slv_iload_n eX8_thirdOfReal_0 rfl ?_
    refine slv_rS (As := [_]) eX8_thirdOfReal_1 lX8_23 rfl rfl hna (by decide) (Nat.le_of_ble_eq_true rfl) ?_
    refine slv_if_eqB eX8_thirdOfReal_4 (fun h4 => absurd h4 (by decide)) (fun h4 => ?_)
    refine slv_ldc2 eX8_thirdOfReal_7 kX8_55 ?_
    refine slv_lret eX8_thirdOfReal_10 rfl ?_
    exact ⟨rfl, rfl⟩
  rw [decide_eq_false a1] at hna
  have hnn : FP.Core.val32 a.toUInt32 ≠ .nan := by
    rcases Nat.lt_or_ge (a.toUInt32.toNat % 2 ^ 31) 2139095040 with g | g
    · rw [fq_fin g]; exact fun z => by cases z
    · rw [fq_inf (by omega)]; exact fun z => by cases z
  rw [re_f2d hnn]
  by_cases a2 : a.toUInt32.toNat % 2 ^ 31 = 2139095040
  · rw [decide_eq_true a2] at hia
    rw [show FP.ddiv (FP.Core.f2d a.toUInt32) 4613937818241073152 = _ from dq_r3i a2, re_sg64]
    by_cases hs : 0 ≤ a
    · rw [if_pos hs]
      refine slv_iload_n eX8_thirdOfReal_0 rfl ?_
      refine slv_rS (As := [_]) eX8_thirdOfReal_1 lX8_23 rfl rfl hna (by decide) (Nat.le_of_ble_eq_true rfl) ?_
      refine slv_if_eqB eX8_thirdOfReal_4 (fun h4 => ?_) (fun h4 => absurd h4 (by decide))
      refine slv_iload_n eX8_thirdOfReal_11 rfl ?_
      refine slv_if_ge eX8_thirdOfReal_12 (fun h12 => ?_) (fun h12 => absurd hs h12)
      refine slv_lconst (v := 0) eX8_thirdOfReal_21 (by decide) ?_
      refine slv_lstore_n (i := 1) (lv' := [_, _, _]) eX8_thirdOfReal_22 rfl (by decide) rfl ?_
      refine slv_iload_n eX8_thirdOfReal_23 rfl ?_
      refine slv_rS (As := [_]) eX8_thirdOfReal_24 lX8_27 rfl rfl hia (by decide) (Nat.le_of_ble_eq_true rfl) ?_
      refine slv_if_eqB eX8_thirdOfReal_27 (fun h27 => absurd h27 (by decide)) (fun h27 => ?_)
      refine slv_lload_n eX8_thirdOfReal_30 rfl ?_
      refine slv_ldc2 eX8_thirdOfReal_31 kX8_57 ?_
      refine slv_lor eX8_thirdOfReal_34 ?_
      refine slv_lret eX8_thirdOfReal_35 rfl ?_
      exact ⟨rfl, rfl⟩
    · rw [if_neg hs]
      refine slv_iload_n eX8_thirdOfReal_0 rfl ?_
      refine slv_rS (As := [_]) eX8_thirdOfReal_1 lX8_23 rfl rfl hna (by decide) (Nat.le_of_ble_eq_true rfl) ?_
      refine slv_if_eqB eX8_thirdOfReal_4 (fun h4 => ?_) (fun h4 => absurd h4 (by decide))
      refine slv_iload_n eX8_thirdOfReal_11 rfl ?_
      refine slv_if_ge eX8_thirdOfReal_12 (fun h12 => absurd h12 hs) (fun h12 => ?_)
      refine slv_ldc2 eX8_thirdOfReal_15 kX8_53 ?_
      refine slv_goto eX8_thirdOfReal_18 ?_
      refine slv_lstore_n (i := 1) (lv' := [_, _, _]) eX8_thirdOfReal_22 rfl (by decide) rfl ?_
      refine slv_iload_n eX8_thirdOfReal_23 rfl ?_
      refine slv_rS (As := [_]) eX8_thirdOfReal_24 lX8_27 rfl rfl hia (by decide) (Nat.le_of_ble_eq_true rfl) ?_
      refine slv_if_eqB eX8_thirdOfReal_27 (fun h27 => absurd h27 (by decide)) (fun h27 => ?_)
      refine slv_lload_n eX8_thirdOfReal_30 rfl ?_
      refine slv_ldc2 eX8_thirdOfReal_31 kX8_57 ?_
      refine slv_lor eX8_thirdOfReal_34 ?_
      refine slv_lret eX8_thirdOfReal_35 rfl ?_
      exact ⟨rfl, rfl⟩
  rw [decide_eq_false a2] at hia
  have hfa := re_fl31 M (a := a) (by omega)
  have hab : FP.Core.val32 (fq_abs a.toUInt32) ≠ .nan := re_nn (by rw [fq_absn]; omega)
  by_cases a0 : a.toUInt32.toNat % 2 ^ 31 = 0
  · rw [show FP.ddiv (FP.Core.f2d a.toUInt32) 4613937818241073152 = _ from dq_r30 a0, re_sg64]
    have hz : fq_abs a.toUInt32 = 0 := UInt32.toNat_inj.mp (by rw [fq_absn]; exact a0)
    rw [hz] at hfa
    have e1 : FP.f2d 0 = 0 := by decide +kernel
    have e2 : FP.ddiv 0 4613937818241073152 = 0 := by decide +kernel
    by_cases hs : 0 ≤ a
    · rw [if_pos hs]
      refine slv_iload_n eX8_thirdOfReal_0 rfl ?_
      refine slv_rS (As := [_]) eX8_thirdOfReal_1 lX8_23 rfl rfl hna (by decide) (Nat.le_of_ble_eq_true rfl) ?_
      refine slv_if_eqB eX8_thirdOfReal_4 (fun h4 => ?_) (fun h4 => absurd h4 (by decide))
      refine slv_iload_n eX8_thirdOfReal_11 rfl ?_
      refine slv_if_ge eX8_thirdOfReal_12 (fun h12 => ?_) (fun h12 => absurd hs h12)
      refine slv_lconst (v := 0) eX8_thirdOfReal_21 (by decide) ?_
      refine slv_lstore_n (i := 1) (lv' := [_, _, _]) eX8_thirdOfReal_22 rfl (by decide) rfl ?_
      refine slv_iload_n eX8_thirdOfReal_23 rfl ?_
      refine slv_rS (As := [_]) eX8_thirdOfReal_24 lX8_27 rfl rfl hia (by decide) (Nat.le_of_ble_eq_true rfl) ?_
      refine slv_if_eqB eX8_thirdOfReal_27 (fun h27 => ?_) (fun h27 => absurd h27 (by decide))
      refine slv_lload_n eX8_thirdOfReal_36 rfl ?_
      refine slv_iload_n eX8_thirdOfReal_37 rfl ?_
      refine slv_ldc eX8_thirdOfReal_38 kX8_11 ?_
      refine slv_iand eX8_thirdOfReal_40 ?_
      refine slv_rS (As := [_]) eX8_thirdOfReal_41 lX8_30 rfl rfl hfa (by decide) (Nat.le_of_ble_eq_true rfl) ?_
      refine slv_f2d eX8_thirdOfReal_44 (fun r44 a44 => ?_)
      rw [e1] at a44
      rw [re_al64 a44 (re_dn dq_z0)]
      refine slv_ldc2d eX8_thirdOfReal_45 kX8_47 ?_
      refine slv_ddiv eX8_thirdOfReal_48 (fun r48 a48 => ?_)
      rw [e2] at a48
      rw [re_al64 a48 (re_dn dq_z0)]
      refine slv_rS (As := [_]) eX8_thirdOfReal_49 lX8_49 rfl rfl (c_X8_longBits0 M) (by decide) (Nat.le_of_ble_eq_true rfl) ?_
      refine slv_lor eX8_thirdOfReal_52 ?_
      refine slv_lret eX8_thirdOfReal_53 rfl ?_
      exact ⟨rfl, rfl⟩
    · rw [if_neg hs]
      refine slv_iload_n eX8_thirdOfReal_0 rfl ?_
      refine slv_rS (As := [_]) eX8_thirdOfReal_1 lX8_23 rfl rfl hna (by decide) (Nat.le_of_ble_eq_true rfl) ?_
      refine slv_if_eqB eX8_thirdOfReal_4 (fun h4 => ?_) (fun h4 => absurd h4 (by decide))
      refine slv_iload_n eX8_thirdOfReal_11 rfl ?_
      refine slv_if_ge eX8_thirdOfReal_12 (fun h12 => absurd h12 hs) (fun h12 => ?_)
      refine slv_ldc2 eX8_thirdOfReal_15 kX8_53 ?_
      refine slv_goto eX8_thirdOfReal_18 ?_
      refine slv_lstore_n (i := 1) (lv' := [_, _, _]) eX8_thirdOfReal_22 rfl (by decide) rfl ?_
      refine slv_iload_n eX8_thirdOfReal_23 rfl ?_
      refine slv_rS (As := [_]) eX8_thirdOfReal_24 lX8_27 rfl rfl hia (by decide) (Nat.le_of_ble_eq_true rfl) ?_
      refine slv_if_eqB eX8_thirdOfReal_27 (fun h27 => ?_) (fun h27 => absurd h27 (by decide))
      refine slv_lload_n eX8_thirdOfReal_36 rfl ?_
      refine slv_iload_n eX8_thirdOfReal_37 rfl ?_
      refine slv_ldc eX8_thirdOfReal_38 kX8_11 ?_
      refine slv_iand eX8_thirdOfReal_40 ?_
      refine slv_rS (As := [_]) eX8_thirdOfReal_41 lX8_30 rfl rfl hfa (by decide) (Nat.le_of_ble_eq_true rfl) ?_
      refine slv_f2d eX8_thirdOfReal_44 (fun r44 a44 => ?_)
      rw [e1] at a44
      rw [re_al64 a44 (re_dn dq_z0)]
      refine slv_ldc2d eX8_thirdOfReal_45 kX8_47 ?_
      refine slv_ddiv eX8_thirdOfReal_48 (fun r48 a48 => ?_)
      rw [e2] at a48
      rw [re_al64 a48 (re_dn dq_z0)]
      refine slv_rS (As := [_]) eX8_thirdOfReal_49 lX8_49 rfl rfl (c_X8_longBits0 M) (by decide) (Nat.le_of_ble_eq_true rfl) ?_
      refine slv_lor eX8_thirdOfReal_52 ?_
      refine slv_lret eX8_thirdOfReal_53 rfl ?_
      exact ⟨rfl, rfl⟩
  · rw [show FP.ddiv (FP.Core.f2d a.toUInt32) 4613937818241073152 = _ from dq_r3s (by omega) a0, re_sg64]
    obtain ⟨c, q, v1, v2, v3, v4, v5⟩ := dq_r3 (a := fq_abs a.toUInt32) (by rw [fq_absn]; omega) (by rw [fq_absn]; exact a0)
    have hy : FP.Core.val64 (FP.Core.f2d (fq_abs a.toUInt32)) ≠ .nan := by
      rw [← FP.Core.notNaN_iff]
      exact FP.Core.f2d_out ((FP.Core.notNaN_iff32 _).mpr hab)
    obtain ⟨y, hy2⟩ : ∃ y, y = FP.Core.f2d (fq_abs a.toUInt32) := ⟨_, rfl⟩
    have e1 : FP.f2d (fq_abs a.toUInt32) = y := by rw [re_f2d hab, hy2]
    rw [← hy2] at v1 hy ⊢
    obtain ⟨x, hx⟩ : ∃ x, x = FP.ddiv y 4613937818241073152 := ⟨_, rfl⟩
    have w1 : FP.Core.val64 x = .fin false c q := by rw [hx]; exact v1
    rw [show FP.Core.ddiv y 4613937818241073152 = x from hx.symm]
    by_cases hs : 0 ≤ a
    · rw [if_pos hs]
      refine slv_iload_n eX8_thirdOfReal_0 rfl ?_
      refine slv_rS (As := [_]) eX8_thirdOfReal_1 lX8_23 rfl rfl hna (by decide) (Nat.le_of_ble_eq_true rfl) ?_
      refine slv_if_eqB eX8_thirdOfReal_4 (fun h4 => ?_) (fun h4 => absurd h4 (by decide))
      refine slv_iload_n eX8_thirdOfReal_11 rfl ?_
      refine slv_if_ge eX8_thirdOfReal_12 (fun h12 => ?_) (fun h12 => absurd hs h12)
      refine slv_lconst (v := 0) eX8_thirdOfReal_21 (by decide) ?_
      refine slv_lstore_n (i := 1) (lv' := [_, _, _]) eX8_thirdOfReal_22 rfl (by decide) rfl ?_
      refine slv_iload_n eX8_thirdOfReal_23 rfl ?_
      refine slv_rS (As := [_]) eX8_thirdOfReal_24 lX8_27 rfl rfl hia (by decide) (Nat.le_of_ble_eq_true rfl) ?_
      refine slv_if_eqB eX8_thirdOfReal_27 (fun h27 => ?_) (fun h27 => absurd h27 (by decide))
      refine slv_lload_n eX8_thirdOfReal_36 rfl ?_
      refine slv_iload_n eX8_thirdOfReal_37 rfl ?_
      refine slv_ldc eX8_thirdOfReal_38 kX8_11 ?_
      refine slv_iand eX8_thirdOfReal_40 ?_
      refine slv_rS (As := [_]) eX8_thirdOfReal_41 lX8_30 rfl rfl hfa (by decide) (Nat.le_of_ble_eq_true rfl) ?_
      refine slv_f2d eX8_thirdOfReal_44 (fun r44 a44 => ?_)
      rw [e1] at a44
      rw [re_al64 a44 hy]
      refine slv_ldc2d eX8_thirdOfReal_45 kX8_47 ?_
      refine slv_ddiv eX8_thirdOfReal_48 (fun r48 a48 => ?_)
      rw [← hx] at a48
      rw [re_al64 a48 (re_dn w1)]
      refine slv_rS (As := [_]) eX8_thirdOfReal_49 lX8_49 rfl rfl (c_X8_longBitsOf M w1 v2 v3 v4 v5) (by decide) (Nat.le_of_ble_eq_true rfl) ?_
      refine slv_lor eX8_thirdOfReal_52 ?_
      refine slv_lret eX8_thirdOfReal_53 rfl ?_
      exact ⟨rfl, rfl⟩
    · rw [if_neg hs]
      refine slv_iload_n eX8_thirdOfReal_0 rfl ?_
      refine slv_rS (As := [_]) eX8_thirdOfReal_1 lX8_23 rfl rfl hna (by decide) (Nat.le_of_ble_eq_true rfl) ?_
      refine slv_if_eqB eX8_thirdOfReal_4 (fun h4 => ?_) (fun h4 => absurd h4 (by decide))
      refine slv_iload_n eX8_thirdOfReal_11 rfl ?_
      refine slv_if_ge eX8_thirdOfReal_12 (fun h12 => absurd h12 hs) (fun h12 => ?_)
      refine slv_ldc2 eX8_thirdOfReal_15 kX8_53 ?_
      refine slv_goto eX8_thirdOfReal_18 ?_
      refine slv_lstore_n (i := 1) (lv' := [_, _, _]) eX8_thirdOfReal_22 rfl (by decide) rfl ?_
      refine slv_iload_n eX8_thirdOfReal_23 rfl ?_
      refine slv_rS (As := [_]) eX8_thirdOfReal_24 lX8_27 rfl rfl hia (by decide) (Nat.le_of_ble_eq_true rfl) ?_
      refine slv_if_eqB eX8_thirdOfReal_27 (fun h27 => ?_) (fun h27 => absurd h27 (by decide))
      refine slv_lload_n eX8_thirdOfReal_36 rfl ?_
      refine slv_iload_n eX8_thirdOfReal_37 rfl ?_
      refine slv_ldc eX8_thirdOfReal_38 kX8_11 ?_
      refine slv_iand eX8_thirdOfReal_40 ?_
      refine slv_rS (As := [_]) eX8_thirdOfReal_41 lX8_30 rfl rfl hfa (by decide) (Nat.le_of_ble_eq_true rfl) ?_
      refine slv_f2d eX8_thirdOfReal_44 (fun r44 a44 => ?_)
      rw [e1] at a44
      rw [re_al64 a44 hy]
      refine slv_ldc2d eX8_thirdOfReal_45 kX8_47 ?_
      refine slv_ddiv eX8_thirdOfReal_48 (fun r48 a48 => ?_)
      rw [← hx] at a48
      rw [re_al64 a48 (re_dn w1)]
      refine slv_rS (As := [_]) eX8_thirdOfReal_49 lX8_49 rfl rfl (c_X8_longBitsOf M w1 v2 v3 v4 v5) (by decide) (Nat.le_of_ble_eq_true rfl) ?_
      refine slv_lor eX8_thirdOfReal_52 ?_
      refine slv_lret eX8_thirdOfReal_53 rfl ?_
      exact ⟨rfl, rfl⟩
theorem rr_ok : rr_all := ⟨c_X8_negated, c_X8_sum, c_X8_product, c_X8_quotient, c_X8_toWhole, c_X8_ofWhole, fun M d p h1 h2 h3 => c_X8_ofDigits M d p h1 h2 h3, c_X8_thirdOfWhole, c_X8_thirdOfReal⟩
end REH
