/-! the class's floats (X8): the operations, and all of rr_all -/
section REF
theorem re_tt (a : Int32) : a.toUInt32.toInt32 = a := rfl
theorem re_or (x y : UInt32) : (x ||| y).toInt32 = x.toInt32 ||| y.toInt32 := rfl
theorem re_and (x y : Int32) : (x &&& y).toUInt32 = x.toUInt32 &&& y.toUInt32 := rfl
theorem re_xor (x y : Int32) : (x ^^^ y).toUInt32 = x.toUInt32 ^^^ y.toUInt32 := rfl
theorem re_or64 (x y : UInt64) : (x ||| y).toInt64 = x.toInt64 ||| y.toInt64 := rfl
theorem re_absu (a : Int32) : (a &&& 2147483647).toUInt32 = fq_abs a.toUInt32 := rfl
theorem re_min (a : Int32) : a = -2147483648 ↔ a.toUInt32 = 2147483648 := by
  constructor
  · rintro rfl; rfl
  · intro h
    have := congrArg UInt32.toInt32 h
    exact this
theorem re_gabs (a : UInt32) : fq_g (fq_abs a) = fq_abs a := by
  unfold fq_g
  rw [if_neg]
  intro h
  have := fq_absn a
  rw [h] at this
  have h2 : (2147483648 : UInt32).toNat = 2147483648 := rfl
  omega
theorem re_sgn {f : UInt32} (h1 : 2 ^ 31 ≤ f.toNat) (h2 : f.toNat % 2 ^ 31 ≤ 2139095040) : (fq_abs f).toInt32 ||| -2147483648 = f.toInt32 := by
  have hv := fq_absv h2
  rw [if_pos h1] at hv
  have := fq_neg hv (by rw [fq_absn]; exact h2)
  conv => rhs; rw [this]
  rfl
theorem re_l0 {f : UInt32} (h : f.toNat % 2 ^ 31 ≤ 2139095040) (hz : f.toNat % 2 ^ 31 ≠ 0) : ¬ Op.cmpValue (FP.fcmp f FP.fconst0) .l = 0 := by
  rw [show FP.fcmp f FP.fconst0 = _ from fq_cmp0 h, if_neg hz]
  split
  · show ¬ (-1 : Int32) = 0
    decide
  · show ¬ (1 : Int32) = 0
    decide
theorem re_l00 {f : UInt32} (hz : f.toNat % 2 ^ 31 = 0) : Op.cmpValue (FP.fcmp f FP.fconst0) .l = 0 := by
  rw [show FP.fcmp f FP.fconst0 = _ from fq_cmp0 (by omega), if_pos hz]
  rfl
theorem re_gn {f : UInt32} (h : f.toNat % 2 ^ 31 ≤ 2139095040) (hz : f.toNat % 2 ^ 31 ≠ 0) (hs : 2 ^ 31 ≤ f.toNat) : ¬ 0 ≤ Op.cmpValue (FP.fcmp f FP.fconst0) .g := by
  rw [show FP.fcmp f FP.fconst0 = _ from fq_cmp0 h, if_neg hz, if_pos hs]
  show ¬ (0 : Int32) ≤ -1
  decide
theorem re_gp {f : UInt32} (h : f.toNat % 2 ^ 31 ≤ 2139095040) (hs : ¬ 2 ^ 31 ≤ f.toNat) : 0 ≤ Op.cmpValue (FP.fcmp f FP.fconst0) .g := by
  rw [show FP.fcmp f FP.fconst0 = _ from fq_cmp0 h, if_neg hs]
  split
  · show (0 : Int32) ≤ 0
    decide
  · show (0 : Int32) ≤ 1
    decide
theorem re_fsub {f r : UInt32} (h1 : 2 ^ 31 < f.toNat) (h2 : f.toNat % 2 ^ 31 ≤ 2139095040) (h : alike32 r (FP.fsub FP.fconst0 f) = true) : r = fq_abs f := by
  have e : FP.fsub FP.fconst0 f = fq_abs f := fq_0sub h1 h2
  rw [e] at h
  refine re_al32 h ?_
  intro z
  have := fq_absn f
  rcases Nat.lt_or_ge ((fq_abs f).toNat % 2 ^ 31) 2139095040 with g | g
  · rw [fq_fin g] at z; cases z
  · rw [fq_inf (a := fq_abs f) (by omega)] at z; cases z
set_option maxRecDepth 100000 in
theorem c_X8_sum (M : sl_M) (a b : Int32) : sl_R YX8_sum 1 [.int a, .int b] M (some (.int (FP.fadd a.toUInt32 b.toUInt32).toInt32)) M := by
  refine sl_T.of_V (lv := [_, _, _]) (by decide) rfl (Nat.le_of_ble_eq_true rfl) ?_
  have hna := c_X8_isNoNumber M a
  have hnb := c_X8_isNoNumber M b
  have hia := c_X8_isInfinite M a
  have hib := c_X8_isInfinite M b
  by_cases a1 : 2139095040 < a.toUInt32.toNat % 2 ^ 31
  · rw [decide_eq_true a1] at hna
    rw [show FP.fadd a.toUInt32 b.toUInt32 = 2143289344 from fq_addn (Or.inl a1)]
    refine slv_iload_n eX8_sum_0 rfl ?_
    refine slv_rS (As := [_]) eX8_sum_1 lX8_23 rfl rfl hna (by decide) (Nat.le_of_ble_eq_true rfl) ?_
    refine slv_if_neB eX8_sum_4 (fun h4 => ?_) (fun h4 => absurd h4 (by decide))
    refine slv_ldc eX8_sum_14 kX8_34 ?_
    refine slv_iret eX8_sum_16 rfl ?_
    exact ⟨rfl, rfl⟩
  rw [decide_eq_false a1] at hna
  by_cases b1 : 2139095040 < b.toUInt32.toNat % 2 ^ 31
  · rw [decide_eq_true b1] at hnb
    rw [show FP.fadd a.toUInt32 b.toUInt32 = 2143289344 from fq_addn (Or.inr (Or.inl b1))]
    refine slv_iload_n eX8_sum_0 rfl ?_
    refine slv_rS (As := [_]) eX8_sum_1 lX8_23 rfl rfl hna (by decide) (Nat.le_of_ble_eq_true rfl) ?_
    refine slv_if_neB eX8_sum_4 (fun h4 => absurd h4 (by decide)) (fun h4 => ?_)
    refine slv_iload_n eX8_sum_7 rfl ?_
    refine slv_rS (As := [_]) eX8_sum_8 lX8_23 rfl rfl hnb (by decide) (Nat.le_of_ble_eq_true rfl) ?_
    refine slv_if_eqB eX8_sum_11 (fun h11 => absurd h11 (by decide)) (fun h11 => ?_)
    refine slv_ldc eX8_sum_14 kX8_34 ?_
    refine slv_iret eX8_sum_16 rfl ?_
    exact ⟨rfl, rfl⟩
  rw [decide_eq_false b1] at hnb
  by_cases a2 : a.toUInt32.toNat % 2 ^ 31 = 2139095040
  · rw [decide_eq_true a2] at hia
    by_cases b2 : b.toUInt32.toNat % 2 ^ 31 = 2139095040
    · rw [decide_eq_true b2] at hib
      by_cases hab : a = b
      · subst hab
        rw [show FP.fadd a.toUInt32 a.toUInt32 = a.toUInt32 from fq_addi a2 (Or.inr rfl), re_tt]
        refine slv_iload_n eX8_sum_0 rfl ?_
        refine slv_rS (As := [_]) eX8_sum_1 lX8_23 rfl rfl hna (by decide) (Nat.le_of_ble_eq_true rfl) ?_
        refine slv_if_neB eX8_sum_4 (fun h4 => absurd h4 (by decide)) (fun h4 => ?_)
        refine slv_iload_n eX8_sum_7 rfl ?_
        refine slv_rS (As := [_]) eX8_sum_8 lX8_23 rfl rfl hnb (by decide) (Nat.le_of_ble_eq_true rfl) ?_
        refine slv_if_eqB eX8_sum_11 (fun h11 => ?_) (fun h11 => absurd h11 (by decide))
        refine slv_iload_n eX8_sum_17 rfl ?_
        refine slv_rS (As := [_]) eX8_sum_18 lX8_27 rfl rfl hia (by decide) (Nat.le_of_ble_eq_true rfl) ?_
        refine slv_if_eqB eX8_sum_21 (fun h21 => absurd h21 (by decide)) (fun h21 => ?_)
        refine slv_iload_n eX8_sum_24 rfl ?_
        refine slv_rS (As := [_]) eX8_sum_25 lX8_27 rfl rfl hib (by decide) (Nat.le_of_ble_eq_true rfl) ?_
        refine slv_if_eqB eX8_sum_28 (fun h28 => absurd h28 (by decide)) (fun h28 => ?_)
        refine slv_iload_n eX8_sum_31 rfl ?_
        refine slv_iload_n eX8_sum_32 rfl ?_
        refine slv_icmp_eq eX8_sum_33 (fun h33 => ?_) (fun h33 => absurd rfl h33)
        refine slv_iload_n eX8_sum_41 rfl ?_
        refine slv_iret eX8_sum_42 rfl ?_
        exact ⟨rfl, rfl⟩
      · rw [show FP.fadd a.toUInt32 b.toUInt32 = 2143289344 from fq_addn (Or.inr (Or.inr ⟨a2, b2, fun z => hab (by rw [← re_tt a, ← re_tt b, z])⟩))]
        refine slv_iload_n eX8_sum_0 rfl ?_
        refine slv_rS (As := [_]) eX8_sum_1 lX8_23 rfl rfl hna (by decide) (Nat.le_of_ble_eq_true rfl) ?_
        refine slv_if_neB eX8_sum_4 (fun h4 => absurd h4 (by decide)) (fun h4 => ?_)
        refine slv_iload_n eX8_sum_7 rfl ?_
        refine slv_rS (As := [_]) eX8_sum_8 lX8_23 rfl rfl hnb (by decide) (Nat.le_of_ble_eq_true rfl) ?_
        refine slv_if_eqB eX8_sum_11 (fun h11 => ?_) (fun h11 => absurd h11 (by decide))
        refine slv_iload_n eX8_sum_17 rfl ?_
        refine slv_rS (As := [_]) eX8_sum_18 lX8_27 rfl rfl hia (by decide) (Nat.le_of_ble_eq_true rfl) ?_
        refine slv_if_eqB eX8_sum_21 (fun h21 => absurd h21 (by decide)) (fun h21 => ?_)
        refine slv_iload_n eX8_sum_24 rfl ?_
        refine slv_rS (As := [_]) eX8_sum_25 lX8_27 rfl rfl hib (by decide) (Nat.le_of_ble_eq_true rfl) ?_
        refine slv_if_eqB eX8_sum_28 (fun h28 => absurd h28 (by decide)) (fun h28 => ?_)
        refine slv_iload_n eX8_sum_31 rfl ?_
        refine slv_iload_n eX8_sum_32 rfl ?_
        refine slv_icmp_eq eX8_sum_33 (fun h33 => absurd h33 hab) (fun h33 => ?_)
        refine slv_ldc eX8_sum_36 kX8_34 ?_
        refine slv_goto eX8_sum_38 ?_
        refine slv_iret eX8_sum_42 rfl ?_
        exact ⟨rfl, rfl⟩
    · rw [decide_eq_false b2] at hib
      rw [show FP.fadd a.toUInt32 b.toUInt32 = a.toUInt32 from fq_addi a2 (Or.inl (by omega)), re_tt]
      refine slv_iload_n eX8_sum_0 rfl ?_
      refine slv_rS (As := [_]) eX8_sum_1 lX8_23 rfl rfl hna (by decide) (Nat.le_of_ble_eq_true rfl) ?_
      refine slv_if_neB eX8_sum_4 (fun h4 => absurd h4 (by decide)) (fun h4 => ?_)
      refine slv_iload_n eX8_sum_7 rfl ?_
      refine slv_rS (As := [_]) eX8_sum_8 lX8_23 rfl rfl hnb (by decide) (Nat.le_of_ble_eq_true rfl) ?_
      refine slv_if_eqB eX8_sum_11 (fun h11 => ?_) (fun h11 => absurd h11 (by decide))
      refine slv_iload_n eX8_sum_17 rfl ?_
      refine slv_rS (As := [_]) eX8_sum_18 lX8_27 rfl rfl hia (by decide) (Nat.le_of_ble_eq_true rfl) ?_
      refine slv_if_eqB eX8_sum_21 (fun h21 => absurd h21 (by decide)) (fun h21 => ?_)
      refine slv_iload_n eX8_sum_24 rfl ?_
      refine slv_rS (As := [_]) eX8_sum_25 lX8_27 rfl rfl hib (by decide) (Nat.le_of_ble_eq_true rfl) ?_
      refine slv_if_eqB eX8_sum_28 (fun h28 => ?_) (fun h28 => absurd h28 (by decide))
      refine slv_iload_n eX8_sum_41 rfl ?_
      refine slv_iret eX8_sum_42 rfl ?_
      exact ⟨rfl, rfl⟩
  rw [decide_eq_false a2] at hia
  by_cases b2 : b.toUInt32.toNat % 2 ^ 31 = 2139095040
  · rw [decide_eq_true b2] at hib
    rw [show FP.fadd a.toUInt32 b.toUInt32 = b.toUInt32 from (FP.Core.fadd_comm _ _).trans (fq_addi b2 (Or.inl (by omega))), re_tt]
    refine slv_iload_n eX8_sum_0 rfl ?_
    refine slv_rS (As := [_]) eX8_sum_1 lX8_23 rfl rfl hna (by decide) (Nat.le_of_ble_eq_true rfl) ?_
    refine slv_if_neB eX8_sum_4 (fun h4 => absurd h4 (by decide)) (fun h4 => ?_)
    refine slv_iload_n eX8_sum_7 rfl ?_
    refine slv_rS (As := [_]) eX8_sum_8 lX8_23 rfl rfl hnb (by decide) (Nat.le_of_ble_eq_true rfl) ?_
    refine slv_if_eqB eX8_sum_11 (fun h11 => ?_) (fun h11 => absurd h11 (by decide))
    refine slv_iload_n eX8_sum_17 rfl ?_
    refine slv_rS (As := [_]) eX8_sum_18 lX8_27 rfl rfl hia (by decide) (Nat.le_of_ble_eq_true rfl) ?_
    refine slv_if_eqB eX8_sum_21 (fun h21 => ?_) (fun h21 => absurd h21 (by decide))
    refine slv_iload_n eX8_sum_43 rfl ?_
    refine slv_rS (As := [_]) eX8_sum_44 lX8_27 rfl rfl hib (by decide) (Nat.le_of_ble_eq_true rfl) ?_
    refine slv_if_eqB eX8_sum_47 (fun h47 => absurd h47 (by decide)) (fun h47 => ?_)
    refine slv_iload_n eX8_sum_50 rfl ?_
    refine slv_iret eX8_sum_51 rfl ?_
    exact ⟨rfl, rfl⟩
  rw [decide_eq_false b2] at hib
  have hfa := c_X8_floatOf M (a := a) (by omega)
  have hfb := c_X8_floatOf M (a := b) (by omega)
  obtain ⟨s1, s2, s3⟩ := fq_add (a := a.toUInt32) (b := b.toUInt32) (by omega) (by omega)
  have hst : ∀ r : UInt32, alike32 r (FP.fadd (fq_g a.toUInt32) (fq_g b.toUInt32)) = true → sl_V YX8_sum none 1 0 0 (fun r1 M1 => r1 = some (.int (FP.fadd a.toUInt32 b.toUInt32).toInt32) ∧ M1 = M) 62 [some (.int a), some (.int b), some (.float r)] [] M := by
    intro r hr
    have hr2 := re_al32 hr s3
    have hr3 : FP.Core.fadd (fq_g a.toUInt32) (fq_g b.toUInt32) = r := hr2.symm
    rw [hr3] at s1 s2 s3
    have hnum := fq_num s3
    by_cases hz : r.toNat % 2 ^ 31 = 0
    · have e := s1 hz
      rw [show FP.fadd a.toUInt32 b.toUInt32 = _ from e]
      have hc := re_l00 hz
      by_cases m1 : a = -2147483648
      · by_cases m2 : b = -2147483648
        · rw [if_pos ⟨(re_min a).mp m1, (re_min b).mp m2⟩]
          refine slv_fload_n eX8_sum_62 rfl ?_
          refine slv_fconst0 eX8_sum_63 ?_
          refine slv_fcmp eX8_sum_64 ?_
          refine slv_if_ne eX8_sum_65 (fun h65 => absurd hc h65) (fun h65 => ?_)
          refine slv_iload_n eX8_sum_68 rfl ?_
          refine slv_ldc eX8_sum_69 kX8_22 ?_
          refine slv_icmp_ne eX8_sum_71 (fun h71 => absurd m1 h71) (fun h71 => ?_)
          refine slv_iload_n eX8_sum_74 rfl ?_
          refine slv_ldc eX8_sum_75 kX8_22 ?_
          refine slv_icmp_ne eX8_sum_77 (fun h77 => absurd m2 h77) (fun h77 => ?_)
          refine slv_ldc eX8_sum_80 kX8_22 ?_
          refine slv_goto eX8_sum_82 ?_
          refine slv_iret eX8_sum_86 rfl ?_
          exact ⟨rfl, rfl⟩
        · rw [if_neg (fun q => m2 ((re_min b).mpr q.2))]
          refine slv_fload_n eX8_sum_62 rfl ?_
          refine slv_fconst0 eX8_sum_63 ?_
          refine slv_fcmp eX8_sum_64 ?_
          refine slv_if_ne eX8_sum_65 (fun h65 => absurd hc h65) (fun h65 => ?_)
          refine slv_iload_n eX8_sum_68 rfl ?_
          refine slv_ldc eX8_sum_69 kX8_22 ?_
          refine slv_icmp_ne eX8_sum_71 (fun h71 => absurd m1 h71) (fun h71 => ?_)
          refine slv_iload_n eX8_sum_74 rfl ?_
          refine slv_ldc eX8_sum_75 kX8_22 ?_
          refine slv_icmp_ne eX8_sum_77 (fun h77 => ?_) (fun h77 => absurd h77 m2)
          refine slv_iconst (v := nI 0) eX8_sum_85 (by decide) ?_
          refine slv_iret eX8_sum_86 rfl ?_
          exact ⟨rfl, rfl⟩
      · rw [if_neg (fun q => m1 ((re_min a).mpr q.1))]
        refine slv_fload_n eX8_sum_62 rfl ?_
        refine slv_fconst0 eX8_sum_63 ?_
        refine slv_fcmp eX8_sum_64 ?_
        refine slv_if_ne eX8_sum_65 (fun h65 => absurd hc h65) (fun h65 => ?_)
        refine slv_iload_n eX8_sum_68 rfl ?_
        refine slv_ldc eX8_sum_69 kX8_22 ?_
        refine slv_icmp_ne eX8_sum_71 (fun h71 => ?_) (fun h71 => absurd h71 m1)
        refine slv_iconst (v := nI 0) eX8_sum_85 (by decide) ?_
        refine slv_iret eX8_sum_86 rfl ?_
        exact ⟨rfl, rfl⟩
    · have e := s2 hz
      rw [show FP.fadd a.toUInt32 b.toUInt32 = r from e]
      have hc := re_l0 hnum hz
      by_cases hs : 2 ^ 31 ≤ r.toNat
      · have hg := re_gn hnum hz hs
        refine slv_fload_n eX8_sum_62 rfl ?_
        refine slv_fconst0 eX8_sum_63 ?_
        refine slv_fcmp eX8_sum_64 ?_
        refine slv_if_ne eX8_sum_65 (fun h65 => ?_) (fun h65 => absurd h65 hc)
        refine slv_fload_n eX8_sum_87 rfl ?_
        refine slv_fconst0 eX8_sum_88 ?_
        refine slv_fcmp eX8_sum_89 ?_
        refine slv_if_ge eX8_sum_90 (fun h90 => absurd h90 hg) (fun h90 => ?_)
        refine slv_fconst0 eX8_sum_93 ?_
        refine slv_fload_n eX8_sum_94 rfl ?_
        refine slv_fsub eX8_sum_95 (fun r95 a95 => ?_)
        rw [re_fsub (by omega) hnum a95]
        refine slv_rS (As := [_]) eX8_sum_96 lX8_18 rfl rfl (c_X8_bitsOf M (f := fq_abs r) (by rw [fq_absn]; exact hnum)) (by decide) (Nat.le_of_ble_eq_true rfl) ?_
        refine slv_ldc eX8_sum_99 kX8_22 ?_
        refine slv_ior eX8_sum_101 ?_
        refine slv_goto eX8_sum_102 ?_
        refine slv_iret eX8_sum_109 rfl ?_
        rw [re_sgn hs hnum]
        exact ⟨rfl, rfl⟩
      · have hg := re_gp hnum hs
        refine slv_fload_n eX8_sum_62 rfl ?_
        refine slv_fconst0 eX8_sum_63 ?_
        refine slv_fcmp eX8_sum_64 ?_
        refine slv_if_ne eX8_sum_65 (fun h65 => ?_) (fun h65 => absurd h65 hc)
        refine slv_fload_n eX8_sum_87 rfl ?_
        refine slv_fconst0 eX8_sum_88 ?_
        refine slv_fcmp eX8_sum_89 ?_
        refine slv_if_ge eX8_sum_90 (fun h90 => ?_) (fun h90 => absurd hg h90)
        refine slv_fload_n eX8_sum_105 rfl ?_
        refine slv_rS (As := [_]) eX8_sum_106 lX8_18 rfl rfl (c_X8_bitsOf M (f := r) (by omega)) (by decide) (Nat.le_of_ble_eq_true rfl) ?_
        refine slv_iret eX8_sum_109 rfl ?_
        exact ⟨rfl, rfl⟩
  refine slv_iload_n eX8_sum_0 rfl ?_
  refine slv_rS (As := [_]) eX8_sum_1 lX8_23 rfl rfl hna (by decide) (Nat.le_of_ble_eq_true rfl) ?_
  refine slv_if_neB eX8_sum_4 (fun h4 => absurd h4 (by decide)) (fun h4 => ?_)
  refine slv_iload_n eX8_sum_7 rfl ?_
  refine slv_rS (As := [_]) eX8_sum_8 lX8_23 rfl rfl hnb (by decide) (Nat.le_of_ble_eq_true rfl) ?_
  refine slv_if_eqB eX8_sum_11 (fun h11 => ?_) (fun h11 => absurd h11 (by decide))
  refine slv_iload_n eX8_sum_17 rfl ?_
  refine slv_rS (As := [_]) eX8_sum_18 lX8_27 rfl rfl hia (by decide) (Nat.le_of_ble_eq_true rfl) ?_
  refine slv_if_eqB eX8_sum_21 (fun h21 => ?_) (fun h21 => absurd h21 (by decide))
  refine slv_iload_n eX8_sum_43 rfl ?_
  refine slv_rS (As := [_]) eX8_sum_44 lX8_27 rfl rfl hib (by decide) (Nat.le_of_ble_eq_true rfl) ?_
  refine slv_if_eqB eX8_sum_47 (fun h47 => ?_) (fun h47 => absurd h47 (by decide))
  refine slv_iload_n eX8_sum_52 rfl ?_
  refine slv_rS (As := [_]) eX8_sum_53 lX8_30 rfl rfl hfa (by decide) (Nat.le_of_ble_eq_true rfl) ?_
  refine slv_iload_n eX8_sum_56 rfl ?_
  refine slv_rS (As := [_]) eX8_sum_57 lX8_30 rfl rfl hfb (by decide) (Nat.le_of_ble_eq_true rfl) ?_
  refine slv_fadd eX8_sum_60 (fun r60 a60 => ?_)
  refine slv_fstore_n (i := 2) (lv' := [_, _, _]) eX8_sum_61 rfl (by decide) rfl ?_
  exact hst r60 a60
end REF
