/-! the class's floats (X8): bitsOf, longBitsOf -/
section REC
variable {X : Option (Nat × (Nat → Int32))} {kc ks : Nat} {Q : Option Value → sl_M → Prop} {M : sl_M} {f : UInt32} {m : Nat}
set_option maxRecDepth 100000 in
theorem re_b1 (hm : m < 2 ^ 24) : ∀ (n F i : Nat) (d : UInt64), i + n ≤ 300 → (1 ≤ n → 2 ^ 23 ≤ m) → PZ d (m * 2 ^ (1074 + n)) → (∀ (d' : UInt64) (z : Int32), PZ d' (m * 2 ^ 1074) → sl_V YX8_bitsOf X 0 kc ks Q 51 [some (.float f), some (.double d'), none, some (.int (nI (F + n))), some (.int z)] [] M) → sl_V YX8_bitsOf X 0 kc ks Q 20 [some (.float f), some (.double d), none, some (.int (nI F)), some (.int (nI i))] [] M := by
  intro n
  induction n with
  | zero =>
    intro F i d hi h1 hd kk
    have hc := re_lt (op := .l) hd re_c24 (Nat.mul_lt_mul_of_pos_right hm (Nat.two_pow_pos _))
    refine slv_iload eX8_bitsOf_20 rfl ?_
    refine slv_sipush (v := nI 400) eX8_bitsOf_22 (by decide) ?_
    refine slv_icmp_geN eX8_bitsOf_25 (by omega) (by omega) (fun h25 => absurd h25 (by omega)) (fun h25 => ?_)
    refine slv_dload_n eX8_bitsOf_28 rfl ?_
    refine slv_ldc2d eX8_bitsOf_29 kX8_43 ?_
    refine slv_dcmp eX8_bitsOf_32 ?_
    refine slv_if_lt eX8_bitsOf_33 (fun h33 => ?_) (fun h33 => absurd hc h33)
    exact kk d _ hd
  | succ n ih =>
    intro F i d hi h1 hd kk
    have hc := re_nlt (re_ge (op := .l) hd re_c24 (by
      rw [show 1074 + (n + 1) = 1074 + n + 1 by omega, Nat.pow_succ, show (2 : Nat) ^ 24 * 2 ^ 1074 = 2 ^ 23 * (2 ^ 1074 * 2) by rw [← Nat.pow_succ, ← Nat.pow_add, ← Nat.pow_add]]
      exact Nat.mul_le_mul (h1 (by omega)) (Nat.mul_le_mul_right _ (Nat.pow_le_pow_right (by decide) (by omega)))))
    refine slv_iload eX8_bitsOf_20 rfl ?_
    refine slv_sipush (v := nI 400) eX8_bitsOf_22 (by decide) ?_
    refine slv_icmp_geN eX8_bitsOf_25 (by omega) (by omega) (fun h25 => absurd h25 (by omega)) (fun h25 => ?_)
    refine slv_dload_n eX8_bitsOf_28 rfl ?_
    refine slv_ldc2d eX8_bitsOf_29 kX8_43 ?_
    refine slv_dcmp eX8_bitsOf_32 ?_
    refine slv_if_lt eX8_bitsOf_33 (fun h33 => absurd h33 hc) (fun h33 => ?_)
    refine slv_dload_n eX8_bitsOf_36 rfl ?_
    refine slv_ldc2d eX8_bitsOf_37 kX8_40 ?_
    refine slv_ddiv eX8_bitsOf_40 (fun r40 a40 => ?_)
    refine slv_dstore_n (i := 1) (lv' := [_, _, _, _, _]) eX8_bitsOf_41 rfl (by decide) rfl ?_
    refine slv_iincN (lv' := [_, _, _, _, _]) eX8_bitsOf_42 rfl (by decide) rfl ?_
    refine slv_iincN (lv' := [_, _, _, _, _]) eX8_bitsOf_45 rfl (by decide) rfl ?_
    refine slv_goto eX8_bitsOf_48 ?_
    refine ih (F + 1) (i + 1) r40 (by omega) (fun _ => h1 (by omega)) (re_half (j := 1074 + n) hd (by omega) a40) (fun d' z hd' => ?_)
    rw [show F + 1 + n = F + (n + 1) by omega]
    exact kk d' z hd'
set_option maxRecDepth 100000 in
theorem re_b2 (hm : m < 2 ^ 24) {e : Nat} (he : 1 ≤ e) (he2 : e ≤ 300) (hme : 2 ^ 23 ≤ m ∨ e = 1) : ∀ (n i : Nat) (d : UInt64), i + n ≤ 300 → PZ d (m * 2 ^ (1074 - n)) → (∀ (d' : UInt64) (z : Int32), PZ d' (m * 2 ^ 1074) → sl_V YX8_bitsOf X 0 kc ks Q 90 [some (.float f), some (.double d'), none, some (.int (nI e)), some (.int z)] [] M) → sl_V YX8_bitsOf X 0 kc ks Q 54 [some (.float f), some (.double d), none, some (.int (nI (e + n))), some (.int (nI i))] [] M := by
  intro n
  induction n with
  | zero =>
    intro i d hi hd kk
    by_cases h : 2 ^ 23 ≤ m
    · have hc := re_ge (op := .g) hd re_c23 (Nat.mul_le_mul_right _ h)
      refine slv_iload eX8_bitsOf_54 rfl ?_
      refine slv_sipush (v := nI 400) eX8_bitsOf_56 (by decide) ?_
      refine slv_icmp_geN eX8_bitsOf_59 (by omega) (by omega) (fun h59 => absurd h59 (by omega)) (fun h59 => ?_)
      refine slv_dload_n eX8_bitsOf_62 rfl ?_
      refine slv_ldc2d eX8_bitsOf_63 kX8_45 ?_
      refine slv_dcmp eX8_bitsOf_66 ?_
      refine slv_if_ge eX8_bitsOf_67 (fun h67 => ?_) (fun h67 => absurd hc h67)
      exact kk d _ hd
    · have hc := re_nge (re_lt (op := .g) hd re_c23 (Nat.mul_lt_mul_of_pos_right (Nat.lt_of_not_le h) (Nat.two_pow_pos _)))
      obtain rfl : e = 1 := hme.resolve_left h
      refine slv_iload eX8_bitsOf_54 rfl ?_
      refine slv_sipush (v := nI 400) eX8_bitsOf_56 (by decide) ?_
      refine slv_icmp_geN eX8_bitsOf_59 (by omega) (by omega) (fun h59 => absurd h59 (by omega)) (fun h59 => ?_)
      refine slv_dload_n eX8_bitsOf_62 rfl ?_
      refine slv_ldc2d eX8_bitsOf_63 kX8_45 ?_
      refine slv_dcmp eX8_bitsOf_66 ?_
      refine slv_if_ge eX8_bitsOf_67 (fun h67 => absurd h67 hc) (fun h67 => ?_)
      refine slv_iload_n eX8_bitsOf_70 rfl ?_
      refine slv_iconst (v := nI 1) eX8_bitsOf_71 (by decide) ?_
      refine slv_icmp_leN eX8_bitsOf_72 (by omega) (by omega) (fun h72 => ?_) (fun h72 => absurd h72 (by omega))
      exact kk d _ hd
  | succ n ih =>
    intro i d hi hd kk
    have hc := re_nge (re_lt (op := .g) hd re_c23 (by
      refine Nat.lt_of_lt_of_le (Nat.mul_lt_mul_of_pos_right hm (Nat.two_pow_pos _)) ?_
      rw [← Nat.pow_add, ← Nat.pow_add]
      exact Nat.pow_le_pow_right (by decide) (by omega)))
    refine slv_iload eX8_bitsOf_54 rfl ?_
    refine slv_sipush (v := nI 400) eX8_bitsOf_56 (by decide) ?_
    refine slv_icmp_geN eX8_bitsOf_59 (by omega) (by omega) (fun h59 => absurd h59 (by omega)) (fun h59 => ?_)
    refine slv_dload_n eX8_bitsOf_62 rfl ?_
    refine slv_ldc2d eX8_bitsOf_63 kX8_45 ?_
    refine slv_dcmp eX8_bitsOf_66 ?_
    refine slv_if_ge eX8_bitsOf_67 (fun h67 => absurd h67 hc) (fun h67 => ?_)
    refine slv_iload_n eX8_bitsOf_70 rfl ?_
    refine slv_iconst (v := nI 1) eX8_bitsOf_71 (by decide) ?_
    refine slv_icmp_leN eX8_bitsOf_72 (by omega) (by omega) (fun h72 => absurd h72 (by omega)) (fun h72 => ?_)
    refine slv_dload_n eX8_bitsOf_75 rfl ?_
    refine slv_ldc2d eX8_bitsOf_76 kX8_40 ?_
    refine slv_dmul eX8_bitsOf_79 (fun r79 a79 => ?_)
    refine slv_dstore_n (i := 1) (lv' := [_, _, _, _, _]) eX8_bitsOf_80 rfl (by decide) rfl ?_
    refine slv_idecN (lv' := [_, _, _, _, _]) eX8_bitsOf_81 rfl (by decide) (by omega) rfl ?_
    refine slv_iincN (lv' := [_, _, _, _, _]) eX8_bitsOf_84 rfl (by decide) rfl ?_
    refine slv_goto eX8_bitsOf_87 ?_
    refine ih (i + 1) r79 (by omega) ?_ kk
    have h2 := re_dbl hd (by omega) (by omega) (by omega) a79
    rw [show 1074 - (n + 1) + 1 = 1074 - n by omega] at h2
    exact h2
theorem re_shl {k : Nat} (h : k < 256) : (nI k) <<< (nI 23 &&& 31) = nI (k * 2 ^ 23) := by
  have : ∀ k, k < 256 → (nI k) <<< (nI 23 &&& 31) = nI (k * 2 ^ 23) := by decide +kernel
  exact this k h
theorem re_nI (f : UInt32) : nI f.toNat = f.toInt32 := by
  apply Int32.toBitVec_inj.mp
  show (Int32.ofNat f.toNat).toBitVec = f.toBitVec
  rw [Int32.toBitVec_ofNat']
  apply BitVec.eq_of_toNat_eq
  rw [BitVec.toNat_ofNat]
  exact Nat.mod_eq_of_lt f.toNat_lt
theorem re_fmax {f : UInt32} (h : f.toNat ≤ 2139095039) : Op.cmpValue (FP.fcmp f 2139095039) .l ≤ 0 := by
  have hn : FP.Core.val32 f ≠ .nan := by rw [fq_fin (by omega)]; exact fun z => by cases z
  have hm : FP.Core.val32 2139095039 ≠ .nan := by decide +kernel
  have k1 : FP.Core.fkey f = (f.toNat : Int) := by unfold FP.Core.fkey; rw [if_neg (by omega)]
  have k2 : FP.Core.fkey 2139095039 = 2139095039 := by decide
  rcases Nat.lt_or_ge f.toNat 2139095039 with g | g
  · rw [show FP.fcmp f 2139095039 = some .lt from (FP.Core.fcmp_lt_key hn hm).mpr (by omega)]
    show (-1 : Int32) ≤ 0
    decide
  · rw [show FP.fcmp f 2139095039 = some .eq from (FP.Core.fcmp_eq_key hn hm).mpr (by omega)]
    show (0 : Int32) ≤ 0
    decide
set_option maxRecDepth 100000 in
theorem c_X8_bitsOf (M : sl_M) {f : UInt32} (h : f.toNat ≤ 2139095040) : sl_R YX8_bitsOf 0 [.float f] M (some (.int f.toInt32)) M := by
  refine sl_T.of_V (lv := [_, _, _, _, _]) (by decide) rfl (Nat.le_of_ble_eq_true rfl) ?_
  rcases Nat.lt_or_ge f.toNat 2139095040 with g | g
  · have hv := fq_fin (a := f) (by omega)
    rw [decide_eq_false (by omega : ¬ 2 ^ 31 ≤ f.toNat), show f.toNat % 2 ^ 31 = f.toNat by omega] at hv
    have hnn : FP.Core.val32 f ≠ .nan := by rw [hv]; exact fun z => by cases z
    have hb := fq_bits f.toNat
    have e1 := fq_e1 f.toNat
    have e2 := fq_e254 g
    have m1 := fq_m24 f.toNat
    have m2 := fq_m23 f.toNat
    have hz := pz_f2d hv
    have hlast : nI ((fq_e f.toNat - 1) * 2 ^ 23) + nI (fq_m f.toNat) = f.toInt32 := by rw [nI_add', hb, re_nI]
    generalize fq_m f.toNat = m at hv hb m1 m2 hz hlast
    generalize fq_e f.toNat = e at hv hb e1 e2 m2 hz hlast
    rw [show (((e : Int) - 150) + 1074).toNat = 924 + e by omega] at hz
    have hc0 := re_fmax (f := f) (by omega)
    have last : ∀ (d : UInt64) (z : Int32), PZ d (m * 2 ^ 1074) → sl_V YX8_bitsOf none 0 0 0 (fun r1 M1 => r1 = some (.int f.toInt32) ∧ M1 = M) 90 [some (.float f), some (.double d), none, some (.int (nI e)), some (.int z)] [] M := by
      intro d z hd
      have hi : FP.d2i d = nI m := pz_d2i hd (by omega)
      have hs := re_shl (k := e - 1) (by omega)
      refine slv_iload_n eX8_bitsOf_90 rfl ?_
      refine slv_iconst (v := nI 1) eX8_bitsOf_91 (by decide) ?_
      refine slv_isubN eX8_bitsOf_92 (by omega) ?_
      refine slv_bipush (v := nI 23) eX8_bitsOf_93 (by decide) ?_
      refine slv_ishl eX8_bitsOf_95 ?_
      refine slv_dload_n eX8_bitsOf_96 rfl ?_
      refine slv_d2i eX8_bitsOf_97 ?_
      refine slv_iadd eX8_bitsOf_98 ?_
      refine slv_iret eX8_bitsOf_99 rfl ?_
      rw [hs, hi, hlast]
      exact ⟨rfl, rfl⟩
    have two : ∀ (d : UInt64) (z : Int32) (n : Nat), n ≤ 200 → PZ d (m * 2 ^ (1074 - n)) → sl_V YX8_bitsOf none 0 0 0 (fun r1 M1 => r1 = some (.int f.toInt32) ∧ M1 = M) 51 [some (.float f), some (.double d), none, some (.int (nI (e + n))), some (.int z)] [] M := by
      intro d z n hn hd
      refine slv_iconst (v := nI 0) eX8_bitsOf_51 (by decide) ?_
      refine slv_istore (lv' := [_, _, _, _, _]) eX8_bitsOf_52 (by decide) rfl ?_
      exact re_b2 m1 e1 (by omega) m2 n 0 d (by omega) hd last
    have one : ∀ d : UInt64, PZ d (m * 2 ^ (924 + e)) → sl_V YX8_bitsOf none 0 0 0 (fun r1 M1 => r1 = some (.int f.toInt32) ∧ M1 = M) 20 [some (.float f), some (.double d), none, some (.int (nI 150)), some (.int (nI 0))] [] M := by
      intro d hd
      by_cases hs : 150 ≤ e
      · refine re_b1 m1 (e - 150) 150 0 d (by omega) (fun q => m2.resolve_right (by omega)) (by rw [show 1074 + (e - 150) = 924 + e by omega]; exact hd) (fun d' z hd' => ?_)
        have := two d' z 0 (by omega) hd'
        rw [show e + 0 = 150 + (e - 150) by omega] at this
        exact this
      · have hc := re_lt (op := .l) hd re_c24 (Nat.lt_of_lt_of_le (Nat.mul_lt_mul_of_pos_right m1 (Nat.two_pow_pos _)) (Nat.mul_le_mul_left _ (Nat.pow_le_pow_right (by decide) (by omega))))
        have h5 := two d (nI 0) (150 - e) (by omega) (by rw [show 1074 - (150 - e) = 924 + e by omega]; exact hd)
        rw [show e + (150 - e) = 150 by omega] at h5
        refine slv_iload eX8_bitsOf_20 rfl ?_
        refine slv_sipush (v := nI 400) eX8_bitsOf_22 (by decide) ?_
        refine slv_icmp_ge eX8_bitsOf_25 (fun h25 => ?_) (fun h25 => ?_)
        · exact h5
        · refine slv_dload_n eX8_bitsOf_28 rfl ?_
          refine slv_ldc2d eX8_bitsOf_29 kX8_43 ?_
          refine slv_dcmp eX8_bitsOf_32 ?_
          refine slv_if_lt eX8_bitsOf_33 (fun h33 => ?_) (fun h33 => absurd hc h33)
          exact h5
    have hz2 : PZ (FP.f2d f) (m * 2 ^ (924 + e)) := by rw [re_f2d hnn]; exact hz
    refine slv_fload_n eX8_bitsOf_0 rfl ?_
    refine slv_ldcf eX8_bitsOf_1 kX8_42 ?_
    refine slv_fcmp eX8_bitsOf_3 ?_
    refine slv_if_le eX8_bitsOf_4 (fun h4 => ?_) (fun h4 => absurd hc0 h4)
    refine slv_fload_n eX8_bitsOf_10 rfl ?_
    refine slv_f2d eX8_bitsOf_11 (fun r11 a11 => ?_)
    refine slv_dstore_n (i := 1) (lv' := [_, _, _, _, _]) eX8_bitsOf_12 rfl (by decide) rfl ?_
    refine slv_sipush (v := nI 150) eX8_bitsOf_13 (by decide) ?_
    refine slv_istore_n (i := 3) (lv' := [_, _, _, _, _]) eX8_bitsOf_16 rfl (by decide) rfl ?_
    refine slv_iconst (v := nI 0) eX8_bitsOf_17 (by decide) ?_
    refine slv_istore (lv' := [_, _, _, _, _]) eX8_bitsOf_18 (by decide) rfl ?_
    rw [re_al64 a11 (pz_ne hz2)]
    exact one _ hz2
  · have e : f = 2139095040 := UInt32.toNat_inj.mp (show f.toNat = 2139095040 by omega)
    subst e
    have hc : ¬ Op.cmpValue (FP.fcmp 2139095040 2139095039) .l ≤ 0 := by decide +kernel
    refine slv_fload_n eX8_bitsOf_0 rfl ?_
    refine slv_ldcf eX8_bitsOf_1 kX8_42 ?_
    refine slv_fcmp eX8_bitsOf_3 ?_
    refine slv_if_le eX8_bitsOf_4 (fun h4 => absurd h4 hc) (fun h4 => ?_)
    refine slv_ldc eX8_bitsOf_7 kX8_14 ?_
    refine slv_iret eX8_bitsOf_9 rfl ?_
    exact ⟨rfl, rfl⟩
end REC
